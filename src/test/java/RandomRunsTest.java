import java.util.Random;

/** Runs of 512 calls, drawn by fixed seeds and with a liking for edges, on DigestBox and on the reference. */
public final class RandomRunsTest {
    private static final int RUNS = 1500;
    private static final int CALLS = 512;

    private final Random random;
    private final DigestBox box = new DigestBox();
    private final ReferenceBox due = new ReferenceBox();
    private final String name;

    private RandomRunsTest(int seed) {
        random = new Random(seed);
        name = "run " + seed + ", call ";
    }

    public static void main(String[] args) {
        for (int seed = 1; seed <= RUNS; seed++) {
            new RandomRunsTest(seed).run();
        }
        Check.end();
    }

    private void run() {
        // Some runs feed mostly, so that long texts, keys and infos come up too.
        int feeding = random.nextInt(3) == 0 ? 60 : 20;
        for (int i = 0; i < CALLS; i++) {
            String what = name + i + ": ";
            if (random.nextInt(100) < feeding) {
                feed(what);
            } else {
                call(what, random.nextInt(14));
            }
        }
    }

    private void feed(String what) {
        int a = random.nextInt();
        int b = random.nextInt();
        int c = random.nextInt();
        int d = random.nextInt();
        int e = random.nextInt();
        compare(what + "feed", () -> box.feed(a, b, c, d, e), () -> due.feed(a, b, c, d, e));
    }

    private void call(String what, int which) {
        int kind = kind();
        switch (which) {
            case 0 -> end(what);
            case 1 -> compare(what + "restart " + kind, () -> {
                box.restart(kind);
                return 0;
            }, () -> {
                due.restart(kind);
                return 0;
            });
            case 2, 3 -> compare(what + "more " + kind, () -> box.more(kind), () -> due.more(kind));
            case 4, 5 -> compare(what + "peek " + kind, () -> box.peek(kind), () -> due.peek(kind));
            case 6 -> compare(what + "key", box::key, due::key);
            case 7 -> compare(what + "keep", box::keep, due::keep);
            case 8 -> compare(what + "hmac " + kind, () -> box.hmac(kind), () -> due.hmac(kind));
            case 9 -> expand(what, kind);
            case 10 -> expandLabel(what, kind);
            case 11, 12 -> result(what);
            default -> count(what);
        }
    }

    private void end(String what) {
        int length = due.count(0);
        int n = pick(0, length, length + 1, -1, length / 2, length - 1, Math.min(length, 249), Math.min(length, 300));
        compare(what + "end " + n, () -> box.end(n), () -> due.end(n));
    }

    private void expand(String what, int kind) {
        int n = expandedLength(kind);
        compare(what + "expand " + kind + " " + n, () -> box.expand(kind, n), () -> due.expand(kind, n));
    }

    private void expandLabel(String what, int kind) {
        int n = expandedLength(kind);
        int length = due.count(0);
        int k = pick(1, 0, 249, 250, length, length + 1, length / 2, length - 255, length - 256, -1, 12);
        compare(what + "expandLabel " + kind + " " + n + " " + k, () -> box.expandLabel(kind, n, k),
                () -> due.expandLabel(kind, n, k));
    }

    private void result(String what) {
        int length = due.count(2);
        int i = random.nextInt(4) == 0 ? pick(-1, 0, length - 1, length) : random.nextInt(length + 1);
        compare(what + "result " + i, () -> box.result(i), () -> due.result(i));
    }

    private void count(String what) {
        int of = random.nextInt(8) - 1;
        compare(what + "count " + of, () -> box.count(of), () -> due.count(of));
    }

    private int kind() {
        return random.nextInt(20) == 0 ? pick(-1, 3, Integer.MIN_VALUE, Integer.MAX_VALUE) : random.nextInt(3);
    }

    private int expandedLength(int kind) {
        int hash = kind >= 0 && kind < 3 ? ReferenceBox.HASH[kind] : 32;
        if (random.nextInt(25) == 0) {
            return pick(255 * hash, 255 * hash - 1, 254 * hash + 1, 255 * hash + 1, Integer.MAX_VALUE);
        }
        return random.nextInt(5) == 0 ? pick(0, -1, 1, hash, hash + 1) : 1 + random.nextInt(4 * hash);
    }

    private int pick(int... from) {
        return from[random.nextInt(from.length)];
    }

    private static void compare(String what, Check.Call call, Check.Call reference) {
        Check.same(what, Check.outcome(call), Check.outcome(reference));
    }
}
