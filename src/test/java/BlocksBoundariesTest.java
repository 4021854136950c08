/** How BLOCKS are counted ("Terms", promises 5 and 6): a test for each sentence, with numbers worked out by hand. */
public final class BlocksBoundariesTest {
    private static final int[] HASH = {32, 48, 64};
    private static final int[] BLOCK = {64, 128, 128};

    public static void main(String[] args) {
        Check.test("a full block is counted by more, once", BlocksBoundariesTest::fullBlocksByMore);
        Check.test("padded blocks are counted with each peek", BlocksBoundariesTest::paddedBlocksByPeek);
        Check.test("a block that fills up after a peek is counted by more", BlocksBoundariesTest::blockFullAfterPeek);
        Check.test("restart: BLOCKS stay", BlocksBoundariesTest::blocksStayWhenRestarted);
        Check.test("HMAC: inner hash, then outer hash, padding included", BlocksBoundariesTest::blocksOfHmac);
        Check.test("HMAC: a key as long as a block is not hashed", BlocksBoundariesTest::keyOfOneBlock);
        Check.test("HMAC: a key longer than a block is hashed first", BlocksBoundariesTest::keyLongerThanBlock);
        Check.test("a long key is counted for each hmac", BlocksBoundariesTest::longKeyInEachHmac);
        Check.test("a long key is counted for each HMAC of expand", BlocksBoundariesTest::longKeyInExpand);
        Check.test("a long key is counted for each HMAC of expandLabel", BlocksBoundariesTest::longKeyInLabel);
        Check.test("HKDF by HMAC: one for each hash's length begun", BlocksBoundariesTest::hmacsOfExpand);
        Check.test("HKDF by HMAC: the info's length", BlocksBoundariesTest::infoOfExpand);
        Check.test("HKDF by HMAC: the label's and context's length", BlocksBoundariesTest::infoOfLabel);
        Check.test("calls that hash nothing count nothing", BlocksBoundariesTest::callsWithoutHash);
        Check.test("the most that 512 calls can count", BlocksBoundariesTest::mostBlocks);
        Check.end();
    }

    private static void fullBlocksByMore() {
        int[][] lengthAndBlocks = {{0, 0}, {63, 0}, {64, 1}, {65, 1}, {127, 1}, {128, 2}, {129, 2}, {640, 10}};
        for (int kind = 0; kind < 3; kind++) {
            for (int[] row : lengthAndBlocks) {
                int length = row[0] * BLOCK[kind] / 64;
                DigestBox box = new DigestBox();
                addToRun(box, kind, length);
                onlyKind(box, kind, row[1], "more of " + length);
                box.more(kind);
                onlyKind(box, kind, row[1], "an empty piece after " + length);
            }
            DigestBox box = new DigestBox();
            addToRun(box, kind, BLOCK[kind] - 1);
            onlyKind(box, kind, 0, "a byte less than a block");
            addToRun(box, kind, 1);
            onlyKind(box, kind, 1, "the byte that fills it");
        }
    }

    private static void paddedBlocksByPeek() {
        int[][] narrow = {{0, 0, 1}, {55, 0, 1}, {56, 0, 2}, {63, 0, 2}, {64, 1, 1}, {119, 1, 1}, {120, 1, 2}};
        int[][] wide = {{0, 0, 1}, {111, 0, 1}, {112, 0, 2}, {127, 0, 2}, {128, 1, 1}, {239, 1, 1}, {240, 1, 2}};
        for (int kind = 0; kind < 3; kind++) {
            for (int[] row : kind == 0 ? narrow : wide) {
                DigestBox box = new DigestBox();
                addToRun(box, kind, row[0]);
                for (int peeks = 1; peeks <= 3; peeks++) {
                    box.peek(kind);
                    onlyKind(box, kind, row[1] + peeks * row[2], peeks + " peeks at " + row[0]);
                }
            }
        }
    }

    private static void blockFullAfterPeek() {
        for (int kind = 0; kind < 3; kind++) {
            DigestBox box = new DigestBox();
            addToRun(box, kind, BLOCK[kind] - 1);
            box.peek(kind);
            onlyKind(box, kind, 2, "a peek before the block is full");
            addToRun(box, kind, 1);
            onlyKind(box, kind, 3, "the byte that fills it");
            box.peek(kind);
            onlyKind(box, kind, 4, "a peek behind it");
        }
    }

    private static void blocksStayWhenRestarted() {
        for (int kind = 0; kind < 3; kind++) {
            DigestBox box = new DigestBox();
            addToRun(box, kind, 2 * BLOCK[kind] + 1);
            box.peek(kind);
            box.restart(kind);
            onlyKind(box, kind, 3, "restart");
            addToRun(box, kind, BLOCK[kind] - 1);
            onlyKind(box, kind, 3, "the bytes before restart fill no block");
            addToRun(box, kind, 1);
            onlyKind(box, kind, 4, "a block of the new text");
        }
    }

    private static void blocksOfHmac() {
        int[][] narrow = {{0, 4}, {55, 4}, {56, 5}, {64, 5}, {119, 5}, {120, 6}};
        int[][] wide = {{0, 4}, {111, 4}, {112, 5}, {128, 5}, {239, 5}, {240, 6}};
        for (int kind = 0; kind < 3; kind++) {
            for (int[] row : kind == 0 ? narrow : wide) {
                DigestBox box = Boxes.withKeyAndTape(Boxes.sample(20), Boxes.sample(row[0]));
                box.hmac(kind);
                onlyKind(box, kind, row[1], "hmac of " + row[0]);
            }
        }
    }

    private static void keyOfOneBlock() {
        for (int kind = 0; kind < 3; kind++) {
            for (int length : new int[] {0, 1, BLOCK[kind] - 1, BLOCK[kind]}) {
                DigestBox box = Boxes.withKeyAndTape(Boxes.sample(length), Boxes.sample(5));
                box.hmac(kind);
                onlyKind(box, kind, 4, "a key of " + length);
            }
        }
    }

    private static void keyLongerThanBlock() {
        int[][] narrow = {{65, 2}, {119, 2}, {120, 3}, {128, 3}, {183, 3}, {184, 4}};
        int[][] wide = {{129, 2}, {239, 2}, {240, 3}, {256, 3}, {367, 3}, {368, 4}};
        for (int kind = 0; kind < 3; kind++) {
            for (int[] row : kind == 0 ? narrow : wide) {
                DigestBox box = Boxes.withKeyAndTape(Boxes.sample(row[0]), Boxes.sample(5));
                box.hmac(kind);
                onlyKind(box, kind, row[1] + 4, "a key of " + row[0]);
            }
        }
    }

    private static void longKeyInEachHmac() {
        for (int kind = 0; kind < 3; kind++) {
            DigestBox box = withLongKey(kind, 0);
            for (int times = 1; times <= 3; times++) {
                box.hmac(kind);
                onlyKind(box, kind, 6 * times, times + " hmacs");
            }
        }
    }

    private static void longKeyInExpand() {
        for (int kind = 0; kind < 3; kind++) {
            for (int steps : new int[] {1, 2, 3, 255}) {
                DigestBox box = withLongKey(kind, 0);
                box.expand(kind, steps * HASH[kind]);
                onlyKind(box, kind, 6 * steps, "expand of " + steps + " steps");
                box.expand(kind, 1);
                onlyKind(box, kind, 6 * steps + 6, "expand once more");
            }
        }
    }

    private static void longKeyInLabel() {
        for (int kind = 0; kind < 3; kind++) {
            for (int steps : new int[] {1, 2, 3, 255}) {
                DigestBox box = withLongKey(kind, 5);
                box.expandLabel(kind, steps * HASH[kind], 2);
                onlyKind(box, kind, 6 * steps, "expandLabel of " + steps + " steps");
            }
        }
    }

    /** A key one byte longer than a block: two blocks to hash it, so six for an HMAC of a short text. */
    private static DigestBox withLongKey(int kind, int tape) {
        return Boxes.withKeyAndTape(Boxes.sample(BLOCK[kind] + 1), Boxes.sample(tape));
    }

    private static void hmacsOfExpand() {
        for (int kind = 0; kind < 3; kind++) {
            int hash = HASH[kind];
            int[][] lengthAndHmacs = {
                {1, 1}, {hash - 1, 1}, {hash, 1}, {hash + 1, 2}, {2 * hash, 2}, {2 * hash + 1, 3},
                {254 * hash, 254}, {254 * hash + 1, 255}, {255 * hash, 255}
            };
            for (int[] row : lengthAndHmacs) {
                DigestBox box = Boxes.withKeyAndTape(Boxes.sample(hash), Boxes.sample(3));
                box.expand(kind, row[0]);
                onlyKind(box, kind, 4 * row[1], "expand to " + row[0]);
                DigestBox label = Boxes.withKeyAndTape(Boxes.sample(hash), Boxes.sample(3));
                label.expandLabel(kind, row[0], 2);
                onlyKind(label, kind, 4 * row[1], "expandLabel to " + row[0]);
            }
        }
    }

    private static void infoOfExpand() {
        // Two HMACs: of the info and a byte, and of a hash, the info and a byte.
        int[][][] infoAndBlocks = {
            {{0, 8}, {22, 8}, {23, 9}, {54, 9}, {55, 10}},
            {{0, 8}, {62, 8}, {63, 9}, {110, 9}, {111, 10}},
            {{0, 8}, {46, 8}, {47, 9}, {110, 9}, {111, 10}}
        };
        for (int kind = 0; kind < 3; kind++) {
            for (int[] row : infoAndBlocks[kind]) {
                DigestBox box = Boxes.withKeyAndTape(Boxes.sample(20), Boxes.sample(row[0]));
                box.expand(kind, 2 * HASH[kind]);
                onlyKind(box, kind, row[1], "an info of " + row[0]);
            }
        }
    }

    private static void infoOfLabel() {
        // The info is ten bytes longer than the TAPE: n, two lengths, and tls13 with its blank.
        int[][][] tapeAndBlocks = {
            {{12, 8}, {13, 9}, {44, 9}, {45, 10}},
            {{52, 8}, {53, 9}, {100, 9}, {101, 10}},
            {{36, 8}, {37, 9}, {100, 9}, {101, 10}}
        };
        for (int kind = 0; kind < 3; kind++) {
            for (int[] row : tapeAndBlocks[kind]) {
                for (int k : new int[] {1, 7, row[0]}) {
                    DigestBox box = Boxes.withKeyAndTape(Boxes.sample(20), Boxes.sample(row[0]));
                    box.expandLabel(kind, 2 * HASH[kind], k);
                    onlyKind(box, kind, row[1], "a label of " + k + " in a TAPE of " + row[0]);
                }
            }
        }
    }

    private static void callsWithoutHash() {
        DigestBox box = new DigestBox();
        box.peek(0);
        Boxes.tape(box, Boxes.sample(300));
        box.key();
        box.keep();
        Boxes.tape(box, Boxes.sample(300));
        box.end(299);
        box.result(0);
        box.count(3);
        for (int kind = 0; kind < 3; kind++) {
            box.restart(kind);
        }
        Check.same("all counts", Boxes.counts(box), "299 32 32 1 0 0");
    }

    /** The longest key there is (256 blocks of KIND 0) in 255 HMACs of four blocks, as often as calls are left. */
    private static void mostBlocks() {
        DigestBox box = new DigestBox();
        box.expand(2, 16320);
        box.keep();
        for (int i = 0; i < 509; i++) {
            box.expand(0, 8160);
        }
        Check.same("BLOCKS of KIND 0", box.count(3), 509 * 255 * 260);
    }

    private static void addToRun(DigestBox box, int kind, int length) {
        Boxes.tape(box, Boxes.sample(length));
        box.more(kind);
    }

    private static void onlyKind(DigestBox box, int kind, int due, String what) {
        for (int other = 0; other < 3; other++) {
            Check.same("KIND " + kind + ", " + what + ", BLOCKS of " + other, box.count(3 + other),
                    other == kind ? due : 0);
        }
    }
}
