import java.util.HexFormat;

/** Calls that the tests make on boxes again and again. */
final class Boxes {
    private Boxes() {
    }

    /** Brings these bytes to the end of the TAPE, by feeds of 20 and one end that cuts off what is too much. */
    static void tape(DigestBox box, byte[] bytes) {
        int before = box.count(0);
        for (int at = 0; at < bytes.length; at += 20) {
            box.feed(number(bytes, at), number(bytes, at + 4), number(bytes, at + 8), number(bytes, at + 12),
                    number(bytes, at + 16));
        }
        box.end(before + bytes.length);
    }

    static void key(DigestBox box, byte[] bytes) {
        tape(box, bytes);
        box.key();
    }

    static DigestBox withKeyAndTape(byte[] key, byte[] tape) {
        DigestBox box = new DigestBox();
        key(box, key);
        tape(box, tape);
        return box;
    }

    /** THE RESULT's bytes first .. last-1 in hex; each is a call. */
    static String resultHex(DigestBox box, int first, int last) {
        byte[] bytes = new byte[last - first];
        for (int i = first; i < last; i++) {
            bytes[i - first] = (byte) box.result(i);
        }
        return HexFormat.of().formatHex(bytes);
    }

    static String resultHex(DigestBox box) {
        return resultHex(box, 0, box.count(2));
    }

    static String counts(DigestBox box) {
        StringBuilder all = new StringBuilder();
        for (int what = 0; what < 6; what++) {
            all.append(box.count(what)).append(' ');
        }
        return all.toString().trim();
    }

    /**
     * All that can be seen of a box, as a text: counts, THE RESULT's ends, the RUNS by their hashes, THE KEY and the
     * TAPE by an HMAC. It uses the box up, and makes up to 140 calls.
     */
    static String everything(DigestBox box) {
        StringBuilder all = new StringBuilder(counts(box));
        int length = box.count(2);
        all.append(" result ").append(resultHex(box, 0, Math.min(length, 32)));
        all.append(" .. ").append(resultHex(box, Math.max(length - 32, 0), length));
        for (int kind = 0; kind < 3; kind++) {
            box.peek(kind);
            all.append(" run ").append(kind).append(' ').append(resultHex(box, 0, 8));
        }
        box.hmac(0);
        all.append(" key and tape ").append(resultHex(box, 0, 8));
        return all.append(" at last ").append(counts(box)).toString();
    }

    /** restart with an answer, so that it can stand where the other calls stand. */
    static long restart(DigestBox box, int kind) {
        box.restart(kind);
        return 0;
    }

    /** Bytes that differ from their neighbours, the same for the same length. */
    static byte[] sample(int length) {
        byte[] bytes = new byte[length];
        for (int i = 0; i < length; i++) {
            bytes[i] = (byte) (i * 37 + i / 251 + length);
        }
        return bytes;
    }

    private static int number(byte[] bytes, int at) {
        int number = 0;
        for (int i = at; i < at + 4; i++) {
            number = number << 8 | (i < bytes.length ? bytes[i] & 0xff : 0xee);
        }
        return number;
    }
}
