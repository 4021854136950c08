import java.io.ByteArrayOutputStream;
import java.nio.ByteBuffer;
import java.nio.charset.StandardCharsets;
import java.security.MessageDigest;
import java.security.NoSuchAlgorithmException;
import java.util.Arrays;
import java.util.HexFormat;
import java.util.NoSuchElementException;

/** The document once more, by the JDK's hashes and whole texts: what DigestBox is compared with. */
final class ReferenceBox {
    private static final String[] NAMES = {"SHA-256", "SHA-384", "SHA-512"};
    static final int[] HASH = {32, 48, 64};
    static final int[] BLOCK = {64, 128, 128};
    private static final int[] LENGTH_FIELD = {8, 16, 16};

    private byte[] tape = {};
    private byte[] key = {};
    private byte[] result = {};
    private final byte[][] runs = {{}, {}, {}};
    private final int[] blocks = {0, 0, 0};

    static ReferenceBox withKeyAndTape(byte[] key, byte[] tape) {
        ReferenceBox due = new ReferenceBox();
        due.tape(key);
        due.key();
        due.tape(tape);
        return due;
    }

    /** Brings these bytes to the end of the TAPE. */
    void tape(byte[] bytes) {
        tape = join(tape, bytes);
    }

    String counts() {
        StringBuilder all = new StringBuilder();
        for (int what = 0; what < 6; what++) {
            all.append(count(what)).append(' ');
        }
        return all.toString().trim();
    }

    /** THE RESULT's bytes first .. last-1 in hex. */
    String resultHex(int first, int last) {
        return HexFormat.of().formatHex(result, first, last);
    }

    int feed(int a, int b, int c, int d, int e) {
        if (65536 - tape.length < 20) {
            throw new IllegalStateException();
        }
        tape = join(tape, ByteBuffer.allocate(20).putInt(a).putInt(b).putInt(c).putInt(d).putInt(e).array());
        return tape.length;
    }

    int end(int n) {
        require(n >= 0 && n <= tape.length);
        tape = Arrays.copyOf(tape, n);
        return n;
    }

    void restart(int kind) {
        requireKind(kind);
        runs[kind] = new byte[0];
    }

    long more(int kind) {
        requireKind(kind);
        int before = runs[kind].length / BLOCK[kind];
        runs[kind] = join(runs[kind], takeTape());
        blocks[kind] += runs[kind].length / BLOCK[kind] - before;
        return runs[kind].length;
    }

    int peek(int kind) {
        requireKind(kind);
        result = plainHash(kind, runs[kind]);
        blocks[kind] += blocksFor(kind, runs[kind].length) - runs[kind].length / BLOCK[kind];
        return result.length;
    }

    int key() {
        key = takeTape();
        return key.length;
    }

    int keep() {
        key = result.clone();
        return key.length;
    }

    int hmac(int kind) {
        requireKind(kind);
        result = mac(kind, takeTape());
        return result.length;
    }

    int expand(int kind, int n) {
        requireKind(kind);
        require(n >= 1 && n <= 255 * HASH[kind]);
        result = stretch(kind, n, takeTape());
        return n;
    }

    int expandLabel(int kind, int n, int k) {
        requireKind(kind);
        require(n >= 1 && n <= 255 * HASH[kind]);
        require(k >= 1 && k <= 249 && k <= tape.length && tape.length - k <= 255);
        byte[] both = takeTape();
        byte[] label = join("tls13 ".getBytes(StandardCharsets.US_ASCII), Arrays.copyOf(both, k));
        byte[] context = Arrays.copyOfRange(both, k, both.length);
        byte[] length = {(byte) (n >> 8), (byte) n};
        result = stretch(kind, n, join(length, join(withLength(label), withLength(context))));
        return n;
    }

    int result(int i) {
        if (i < 0 || i >= result.length) {
            throw new IndexOutOfBoundsException();
        }
        return result[i] & 0xff;
    }

    int count(int what) {
        return switch (what) {
            case 0 -> tape.length;
            case 1 -> key.length;
            case 2 -> result.length;
            case 3, 4, 5 -> blocks[what - 3];
            default -> -1;
        };
    }

    /** How many blocks a hash goes over for a text of this length, padding included. */
    static int blocksFor(int kind, int length) {
        return (length + 1 + LENGTH_FIELD[kind] + BLOCK[kind] - 1) / BLOCK[kind];
    }

    private byte[] stretch(int kind, int n, byte[] info) {
        ByteArrayOutputStream all = new ByteArrayOutputStream();
        byte[] last = {};
        for (int i = 1; all.size() < n; i++) {
            last = mac(kind, join(last, join(info, new byte[] {(byte) i})));
            all.writeBytes(last);
        }
        return Arrays.copyOf(all.toByteArray(), n);
    }

    private byte[] mac(int kind, byte[] text) {
        byte[] block = Arrays.copyOf(key.length > BLOCK[kind] ? countedHash(kind, key) : key, BLOCK[kind]);
        byte[] inner = countedHash(kind, join(mask(block, 0x36), text));
        return countedHash(kind, join(mask(block, 0x5c), inner));
    }

    private byte[] countedHash(int kind, byte[] text) {
        blocks[kind] += blocksFor(kind, text.length);
        return plainHash(kind, text);
    }

    private static byte[] plainHash(int kind, byte[] text) {
        try {
            return MessageDigest.getInstance(NAMES[kind]).digest(text);
        } catch (NoSuchAlgorithmException e) {
            throw new AssertionError(e);
        }
    }

    private byte[] takeTape() {
        byte[] taken = tape;
        tape = new byte[0];
        return taken;
    }

    private static byte[] withLength(byte[] text) {
        return join(new byte[] {(byte) text.length}, text);
    }

    private static byte[] mask(byte[] block, int pad) {
        byte[] masked = block.clone();
        for (int i = 0; i < masked.length; i++) {
            masked[i] ^= (byte) pad;
        }
        return masked;
    }

    private static byte[] join(byte[] first, byte[] second) {
        byte[] both = Arrays.copyOf(first, first.length + second.length);
        System.arraycopy(second, 0, both, first.length, second.length);
        return both;
    }

    private static void requireKind(int kind) {
        if (kind < 0 || kind > 2) {
            throw new NoSuchElementException();
        }
    }

    private static void require(boolean holds) {
        if (!holds) {
            throw new IllegalArgumentException();
        }
    }
}
