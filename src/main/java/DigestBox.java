import java.util.Arrays;
import java.util.NoSuchElementException;

/** Hashes of texts that come in pieces, keyed hashes, and keys that are derived from keys. */
public final class DigestBox {
    private static final int KINDS = 3;
    private static final int TAPE_LIMIT = 65536;
    private static final int FEED_BYTES = 20;
    private static final int FIRST_ROOM = 64;
    private static final int MOST_STEPS = 255;
    private static final int LABEL_LIMIT = 249;
    private static final int CONTEXT_LIMIT = 255;
    private static final byte[] LABEL_PREFIX = {'t', 'l', 's', '1', '3', ' '};

    private static final long[] SHA_256_START = {
        0x6a09e667L, 0xbb67ae85L, 0x3c6ef372L, 0xa54ff53aL,
        0x510e527fL, 0x9b05688cL, 0x1f83d9abL, 0x5be0cd19L
    };
    private static final long[] SHA_384_START = {
        0xcbbb9d5dc1059ed8L, 0x629a292a367cd507L, 0x9159015a3070dd17L, 0x152fecd8f70e5939L,
        0x67332667ffc00b31L, 0x8eb44a8768581511L, 0xdb0c2e0d64f98fa7L, 0x47b5481dbefa4fa4L
    };
    private static final long[] SHA_512_START = {
        0x6a09e667f3bcc908L, 0xbb67ae8584caa73bL, 0x3c6ef372fe94f82bL, 0xa54ff53a5f1d36f1L,
        0x510e527fade682d1L, 0x9b05688c2b3e6c1fL, 0x1f83d9abfb41bd6bL, 0x5be0cd19137e2179L
    };

    private final Row tape;
    private final Row secret;
    private final Row outcome;
    private final Row labelInfo;
    private final Sha[] runs;
    private final Mac[] macs;

    public DigestBox() {
        tape = new Row();
        secret = new Row();
        outcome = new Row();
        labelInfo = new Row();
        runs = new Sha[] {
            new NarrowSha(SHA_256_START, 32), new WideSha(SHA_384_START, 48), new WideSha(SHA_512_START, 64)
        };
        // The RUNS go on while other texts are hashed, so each Mac has a hash of its own to work with.
        macs = new Mac[] {
            new Mac(new NarrowSha(SHA_256_START, 32)),
            new Mac(new WideSha(SHA_384_START, 48)),
            new Mac(new WideSha(SHA_512_START, 64))
        };
    }

    public int feed(int a, int b, int c, int d, int e) throws IllegalStateException {
        if (tape.length > TAPE_LIMIT - FEED_BYTES) {
            throw new IllegalStateException();
        }
        tape.appendNumber(a);
        tape.appendNumber(b);
        tape.appendNumber(c);
        tape.appendNumber(d);
        tape.appendNumber(e);
        return tape.length;
    }

    public int end(int n) throws IllegalArgumentException {
        if (n < 0 || n > tape.length) {
            throw new IllegalArgumentException();
        }
        tape.length = n;
        return n;
    }

    public void restart(int kind) throws NoSuchElementException {
        checkKind(kind);
        runs[kind].begin();
    }

    public long more(int kind) throws NoSuchElementException {
        checkKind(kind);
        runs[kind].take(tape.bytes, 0, tape.length);
        tape.length = 0;
        return runs[kind].total;
    }

    public int peek(int kind) throws NoSuchElementException {
        checkKind(kind);
        Sha copy = macs[kind].sha;
        copy.becomeCopyOf(runs[kind]);
        copy.close(roomForResult(copy.hashBytes), 0);
        return outcome.length;
    }

    public int key() {
        secret.becomeCopyOf(tape);
        tape.length = 0;
        return secret.length;
    }

    public int keep() {
        secret.becomeCopyOf(outcome);
        return secret.length;
    }

    public int hmac(int kind) throws NoSuchElementException {
        checkKind(kind);
        Mac mac = macs[kind];
        mac.setKey(secret);
        mac.beginText();
        mac.sha.take(tape.bytes, 0, tape.length);
        mac.closeText(roomForResult(mac.sha.hashBytes), 0);
        tape.length = 0;
        return outcome.length;
    }

    public int expand(int kind, int n) throws NoSuchElementException, IllegalArgumentException {
        checkKind(kind);
        checkExpandedLength(kind, n);
        macs[kind].setKey(secret);
        expandKey(macs[kind], n, tape);
        tape.length = 0;
        return outcome.length;
    }

    public int expandLabel(int kind, int n, int k) throws NoSuchElementException, IllegalArgumentException {
        checkKind(kind);
        checkExpandedLength(kind, n);
        checkLabelLength(k);
        writeLabelInfo(n, k);
        macs[kind].setKey(secret);
        expandKey(macs[kind], n, labelInfo);
        tape.length = 0;
        return outcome.length;
    }

    public int result(int i) throws IndexOutOfBoundsException {
        if (i < 0 || i >= outcome.length) {
            throw new IndexOutOfBoundsException();
        }
        return outcome.bytes[i] & 0xff;
    }

    public int count(int what) {
        switch (what) {
            case 0:
                return tape.length;
            case 1:
                return secret.length;
            case 2:
                return outcome.length;
            case 3:
                return blocksOf(0);
            case 4:
                return blocksOf(1);
            case 5:
                return blocksOf(2);
            default:
                return -1;
        }
    }

    private static void checkKind(int kind) throws NoSuchElementException {
        if (kind < 0 || kind >= KINDS) {
            throw new NoSuchElementException();
        }
    }

    private void checkExpandedLength(int kind, int n) throws IllegalArgumentException {
        if (n < 1 || n > MOST_STEPS * runs[kind].hashBytes) {
            throw new IllegalArgumentException();
        }
    }

    private void checkLabelLength(int k) throws IllegalArgumentException {
        if (k < 1 || k > LABEL_LIMIT || k > tape.length || tape.length - k > CONTEXT_LIMIT) {
            throw new IllegalArgumentException();
        }
    }

    private int blocksOf(int kind) {
        return runs[kind].blocks + macs[kind].sha.blocks;
    }

    private byte[] roomForResult(int length) {
        outcome.makeRoom(length);
        outcome.length = length;
        return outcome.bytes;
    }

    /** The struct HkdfLabel of RFC 8446, 7.1. */
    private void writeLabelInfo(int n, int k) {
        int context = tape.length - k;
        labelInfo.length = 0;
        labelInfo.appendByte(n >>> 8);
        labelInfo.appendByte(n);
        labelInfo.appendByte(LABEL_PREFIX.length + k);
        labelInfo.append(LABEL_PREFIX, 0, LABEL_PREFIX.length);
        labelInfo.append(tape.bytes, 0, k);
        labelInfo.appendByte(context);
        labelInfo.append(tape.bytes, k, context);
    }

    /** HKDF-Expand of RFC 5869, 2.3, with the key that the Mac has. */
    private void expandKey(Mac mac, int n, Row info) {
        int step = mac.sha.hashBytes;
        int steps = (n + step - 1) / step;
        // Room for whole steps: the last one is written whole too and cut by the length alone.
        byte[] to = roomForResult(steps * step);
        for (int i = 0; i < steps; i++) {
            mac.beginText();
            if (i > 0) {
                mac.sha.take(to, (i - 1) * step, step);
            }
            mac.sha.take(info.bytes, 0, info.length);
            mac.sha.takeByte(i + 1);
            mac.closeText(to, i * step);
        }
        outcome.length = n;
    }

    /** A row of bytes that makes room as it grows, so that a new object is small. */
    private static final class Row {
        private byte[] bytes = new byte[FIRST_ROOM];
        private int length;

        private void makeRoom(int wanted) {
            if (wanted > bytes.length) {
                bytes = Arrays.copyOf(bytes, Math.max(wanted, 2 * bytes.length));
            }
        }

        private void appendByte(int value) {
            makeRoom(length + 1);
            bytes[length] = (byte) value;
            length++;
        }

        private void appendNumber(int value) {
            appendByte(value >>> 24);
            appendByte(value >>> 16);
            appendByte(value >>> 8);
            appendByte(value);
        }

        private void append(byte[] from, int start, int many) {
            makeRoom(length + many);
            System.arraycopy(from, start, bytes, length, many);
            length += many;
        }

        private void becomeCopyOf(Row other) {
            length = 0;
            append(other.bytes, 0, other.length);
        }
    }

    /** A hash of FIPS 180-4 that is being worked out; words of 32 bits stand in the low half of the longs. */
    private abstract static class Sha {
        final long[] state = new long[8];
        final byte[] block;
        final int hashBytes;
        private final long[] start;
        private final int wordBytes;
        private int filled;
        private long total;
        private int blocks;

        Sha(long[] start, int wordBytes, int hashBytes) {
            this.start = start;
            this.wordBytes = wordBytes;
            this.hashBytes = hashBytes;
            block = new byte[16 * wordBytes];
            System.arraycopy(start, 0, state, 0, state.length);
        }

        abstract void fillSchedule();

        abstract void mixSchedule();

        private void begin() {
            resume(start, 0);
        }

        /** Goes on behind whole blocks, done bytes in all, that led to this state. */
        private void resume(long[] from, int done) {
            System.arraycopy(from, 0, state, 0, state.length);
            filled = 0;
            total = done;
        }

        /** The blocks counted stay: what the other hash has gone over is counted there. */
        private void becomeCopyOf(Sha other) {
            System.arraycopy(other.state, 0, state, 0, state.length);
            System.arraycopy(other.block, 0, block, 0, other.filled);
            filled = other.filled;
            total = other.total;
        }

        private void take(byte[] from, int first, int many) {
            for (int i = 0; i < many; i++) {
                block[filled] = from[first + i];
                filled++;
                if (filled == block.length) {
                    goOverBlock();
                }
            }
            total += many;
        }

        private void takeByte(int value) {
            block[filled] = (byte) value;
            filled++;
            if (filled == block.length) {
                goOverBlock();
            }
            total++;
        }

        private void goOverBlock() {
            fillSchedule();
            mixSchedule();
            blocks++;
            filled = 0;
        }

        /** Pads the text and writes its hash; only begin, resume or becomeCopyOf make sense after it. */
        private void close(byte[] to, int first) {
            block[filled] = (byte) 0x80;
            filled++;
            if (filled > block.length - 2 * wordBytes) {
                fillUpWithZeros();
                goOverBlock();
            }
            fillUpWithZeros();
            writeLengthInBits();
            goOverBlock();
            writeHash(to, first);
        }

        private void fillUpWithZeros() {
            Arrays.fill(block, filled, block.length, (byte) 0);
        }

        /** No text here needs more than 64 bits for its length, so the upper half of a wide one stays zero. */
        private void writeLengthInBits() {
            long bits = 8 * total;
            for (int i = 0; i < 8; i++) {
                block[block.length - 1 - i] = (byte) (bits >>> (8 * i));
            }
        }

        private void writeHash(byte[] to, int first) {
            for (int i = 0; i < hashBytes; i++) {
                int shift = 8 * (wordBytes - 1 - i % wordBytes);
                to[first + i] = (byte) (state[i / wordBytes] >>> shift);
            }
        }
    }

    /** SHA-256. */
    private static final class NarrowSha extends Sha {
        private static final int[] ROUND_CONSTANTS = {
            0x428a2f98, 0x71374491, 0xb5c0fbcf, 0xe9b5dba5, 0x3956c25b, 0x59f111f1, 0x923f82a4, 0xab1c5ed5,
            0xd807aa98, 0x12835b01, 0x243185be, 0x550c7dc3, 0x72be5d74, 0x80deb1fe, 0x9bdc06a7, 0xc19bf174,
            0xe49b69c1, 0xefbe4786, 0x0fc19dc6, 0x240ca1cc, 0x2de92c6f, 0x4a7484aa, 0x5cb0a9dc, 0x76f988da,
            0x983e5152, 0xa831c66d, 0xb00327c8, 0xbf597fc7, 0xc6e00bf3, 0xd5a79147, 0x06ca6351, 0x14292967,
            0x27b70a85, 0x2e1b2138, 0x4d2c6dfc, 0x53380d13, 0x650a7354, 0x766a0abb, 0x81c2c92e, 0x92722c85,
            0xa2bfe8a1, 0xa81a664b, 0xc24b8b70, 0xc76c51a3, 0xd192e819, 0xd6990624, 0xf40e3585, 0x106aa070,
            0x19a4c116, 0x1e376c08, 0x2748774c, 0x34b0bcb5, 0x391c0cb3, 0x4ed8aa4a, 0x5b9cca4f, 0x682e6ff3,
            0x748f82ee, 0x78a5636f, 0x84c87814, 0x8cc70208, 0x90befffa, 0xa4506ceb, 0xbef9a3f7, 0xc67178f2
        };

        private final int[] schedule = new int[64];

        NarrowSha(long[] start, int hashBytes) {
            super(start, 4, hashBytes);
        }

        void mixSchedule() {
            int a = (int) state[0];
            int b = (int) state[1];
            int c = (int) state[2];
            int d = (int) state[3];
            int e = (int) state[4];
            int f = (int) state[5];
            int g = (int) state[6];
            int h = (int) state[7];
            for (int t = 0; t < 64; t++) {
                int t1 = h + bigSigma1(e) + ((e & f) ^ (~e & g)) + ROUND_CONSTANTS[t] + schedule[t];
                int t2 = bigSigma0(a) + ((a & b) ^ (a & c) ^ (b & c));
                h = g;
                g = f;
                f = e;
                e = d + t1;
                d = c;
                c = b;
                b = a;
                a = t1 + t2;
            }
            state[0] += a;
            state[1] += b;
            state[2] += c;
            state[3] += d;
            state[4] += e;
            state[5] += f;
            state[6] += g;
            state[7] += h;
        }

        void fillSchedule() {
            for (int t = 0; t < 16; t++) {
                int word = 0;
                for (int i = 0; i < 4; i++) {
                    word = (word << 8) | (block[4 * t + i] & 0xff);
                }
                schedule[t] = word;
            }
            for (int t = 16; t < 64; t++) {
                schedule[t] = smallSigma1(schedule[t - 2]) + schedule[t - 7]
                        + smallSigma0(schedule[t - 15]) + schedule[t - 16];
            }
        }

        private static int bigSigma0(int x) {
            return ((x >>> 2) | (x << 30)) ^ ((x >>> 13) | (x << 19)) ^ ((x >>> 22) | (x << 10));
        }

        private static int bigSigma1(int x) {
            return ((x >>> 6) | (x << 26)) ^ ((x >>> 11) | (x << 21)) ^ ((x >>> 25) | (x << 7));
        }

        private static int smallSigma0(int x) {
            return ((x >>> 7) | (x << 25)) ^ ((x >>> 18) | (x << 14)) ^ (x >>> 3);
        }

        private static int smallSigma1(int x) {
            return ((x >>> 17) | (x << 15)) ^ ((x >>> 19) | (x << 13)) ^ (x >>> 10);
        }
    }

    /** SHA-384 and SHA-512. */
    private static final class WideSha extends Sha {
        private static final long[] ROUND_CONSTANTS = {
            0x428a2f98d728ae22L, 0x7137449123ef65cdL, 0xb5c0fbcfec4d3b2fL, 0xe9b5dba58189dbbcL,
            0x3956c25bf348b538L, 0x59f111f1b605d019L, 0x923f82a4af194f9bL, 0xab1c5ed5da6d8118L,
            0xd807aa98a3030242L, 0x12835b0145706fbeL, 0x243185be4ee4b28cL, 0x550c7dc3d5ffb4e2L,
            0x72be5d74f27b896fL, 0x80deb1fe3b1696b1L, 0x9bdc06a725c71235L, 0xc19bf174cf692694L,
            0xe49b69c19ef14ad2L, 0xefbe4786384f25e3L, 0x0fc19dc68b8cd5b5L, 0x240ca1cc77ac9c65L,
            0x2de92c6f592b0275L, 0x4a7484aa6ea6e483L, 0x5cb0a9dcbd41fbd4L, 0x76f988da831153b5L,
            0x983e5152ee66dfabL, 0xa831c66d2db43210L, 0xb00327c898fb213fL, 0xbf597fc7beef0ee4L,
            0xc6e00bf33da88fc2L, 0xd5a79147930aa725L, 0x06ca6351e003826fL, 0x142929670a0e6e70L,
            0x27b70a8546d22ffcL, 0x2e1b21385c26c926L, 0x4d2c6dfc5ac42aedL, 0x53380d139d95b3dfL,
            0x650a73548baf63deL, 0x766a0abb3c77b2a8L, 0x81c2c92e47edaee6L, 0x92722c851482353bL,
            0xa2bfe8a14cf10364L, 0xa81a664bbc423001L, 0xc24b8b70d0f89791L, 0xc76c51a30654be30L,
            0xd192e819d6ef5218L, 0xd69906245565a910L, 0xf40e35855771202aL, 0x106aa07032bbd1b8L,
            0x19a4c116b8d2d0c8L, 0x1e376c085141ab53L, 0x2748774cdf8eeb99L, 0x34b0bcb5e19b48a8L,
            0x391c0cb3c5c95a63L, 0x4ed8aa4ae3418acbL, 0x5b9cca4f7763e373L, 0x682e6ff3d6b2b8a3L,
            0x748f82ee5defb2fcL, 0x78a5636f43172f60L, 0x84c87814a1f0ab72L, 0x8cc702081a6439ecL,
            0x90befffa23631e28L, 0xa4506cebde82bde9L, 0xbef9a3f7b2c67915L, 0xc67178f2e372532bL,
            0xca273eceea26619cL, 0xd186b8c721c0c207L, 0xeada7dd6cde0eb1eL, 0xf57d4f7fee6ed178L,
            0x06f067aa72176fbaL, 0x0a637dc5a2c898a6L, 0x113f9804bef90daeL, 0x1b710b35131c471bL,
            0x28db77f523047d84L, 0x32caab7b40c72493L, 0x3c9ebe0a15c9bebcL, 0x431d67c49c100d4cL,
            0x4cc5d4becb3e42b6L, 0x597f299cfc657e2aL, 0x5fcb6fab3ad6faecL, 0x6c44198c4a475817L
        };

        private final long[] schedule = new long[80];

        WideSha(long[] start, int hashBytes) {
            super(start, 8, hashBytes);
        }

        void mixSchedule() {
            long a = state[0];
            long b = state[1];
            long c = state[2];
            long d = state[3];
            long e = state[4];
            long f = state[5];
            long g = state[6];
            long h = state[7];
            for (int t = 0; t < 80; t++) {
                long t1 = h + bigSigma1(e) + ((e & f) ^ (~e & g)) + ROUND_CONSTANTS[t] + schedule[t];
                long t2 = bigSigma0(a) + ((a & b) ^ (a & c) ^ (b & c));
                h = g;
                g = f;
                f = e;
                e = d + t1;
                d = c;
                c = b;
                b = a;
                a = t1 + t2;
            }
            state[0] += a;
            state[1] += b;
            state[2] += c;
            state[3] += d;
            state[4] += e;
            state[5] += f;
            state[6] += g;
            state[7] += h;
        }

        void fillSchedule() {
            for (int t = 0; t < 16; t++) {
                long word = 0;
                for (int i = 0; i < 8; i++) {
                    word = (word << 8) | (block[8 * t + i] & 0xff);
                }
                schedule[t] = word;
            }
            for (int t = 16; t < 80; t++) {
                schedule[t] = smallSigma1(schedule[t - 2]) + schedule[t - 7]
                        + smallSigma0(schedule[t - 15]) + schedule[t - 16];
            }
        }

        private static long bigSigma0(long x) {
            return ((x >>> 28) | (x << 36)) ^ ((x >>> 34) | (x << 30)) ^ ((x >>> 39) | (x << 25));
        }

        private static long bigSigma1(long x) {
            return ((x >>> 14) | (x << 50)) ^ ((x >>> 18) | (x << 46)) ^ ((x >>> 41) | (x << 23));
        }

        private static long smallSigma0(long x) {
            return ((x >>> 1) | (x << 63)) ^ ((x >>> 8) | (x << 56)) ^ (x >>> 7);
        }

        private static long smallSigma1(long x) {
            return ((x >>> 19) | (x << 45)) ^ ((x >>> 61) | (x << 3)) ^ (x >>> 6);
        }
    }

    /** HMAC over one of the hashes: setKey once, then for each text beginText, sha.take, closeText. */
    private static final class Mac {
        private static final int INNER_PAD = 0x36;
        private static final int OUTER_PAD = 0x5c;

        private final Sha sha;
        private final byte[] keyBlock;
        private final byte[] innerHash;
        private final long[] innerStart = new long[8];
        private final long[] outerStart = new long[8];
        private int keyBlocks;

        Mac(Sha sha) {
            this.sha = sha;
            keyBlock = new byte[sha.block.length];
            innerHash = new byte[sha.hashBytes];
        }

        private void setKey(Row key) {
            int before = sha.blocks;
            fillKeyBlock(key);
            startWith(INNER_PAD, innerStart);
            startWith(OUTER_PAD, outerStart);
            // The key is worked over once, but each HMAC counts these blocks anew: beginText adds them.
            keyBlocks = sha.blocks - before;
            sha.blocks = before;
        }

        private void fillKeyBlock(Row key) {
            Arrays.fill(keyBlock, (byte) 0);
            if (key.length > keyBlock.length) {
                sha.begin();
                sha.take(key.bytes, 0, key.length);
                sha.close(keyBlock, 0);
            } else {
                System.arraycopy(key.bytes, 0, keyBlock, 0, key.length);
            }
        }

        private void startWith(int pad, long[] to) {
            sha.begin();
            for (int i = 0; i < keyBlock.length; i++) {
                sha.takeByte(keyBlock[i] ^ pad);
            }
            System.arraycopy(sha.state, 0, to, 0, to.length);
        }

        private void beginText() {
            sha.blocks += keyBlocks;
            sha.resume(innerStart, keyBlock.length);
        }

        private void closeText(byte[] to, int first) {
            sha.close(innerHash, 0);
            sha.resume(outerStart, keyBlock.length);
            sha.take(innerHash, 0, innerHash.length);
            sha.close(to, first);
        }
    }
}
