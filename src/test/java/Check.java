import java.util.HexFormat;

/** Compares answers with what is due, prints what differs, and ends the test with exit code 1 if anything did. */
final class Check {
    interface Call {
        long answer();
    }

    private static int checks = 0;
    private static int wrong = 0;
    private static String test = "";

    private Check() {
    }

    /** Runs one test by its name; what it throws is a wrong answer, and the tests behind it still run. */
    static void test(String name, Runnable body) {
        test = name + ": ";
        int before = checks;
        try {
            body.run();
            note("the test", checks > before, "no checks", "some");
        } catch (RuntimeException | Error e) {
            note("the test", false, "throws " + e, "no exception");
        }
        test = "";
    }

    static void same(String what, long got, long due) {
        note(what, got == due, String.valueOf(got), String.valueOf(due));
    }

    static void same(String what, String got, String due) {
        note(what, got.equals(due), got, due);
    }

    /** The call throws exactly this exception, not one that extends it. */
    static void throwing(String what, Class<? extends RuntimeException> due, Call call) {
        same(what, outcome(call), "throws " + due.getSimpleName());
    }

    /** What a call answers, or throws, as a text that can be compared. */
    static String outcome(Call call) {
        try {
            return String.valueOf(call.answer());
        } catch (RuntimeException | Error e) {
            return "throws " + e.getClass().getSimpleName();
        }
    }

    static byte[] bytes(String hex) {
        return HexFormat.of().parseHex(hex);
    }

    static void end() {
        System.out.println(checks + " checks, " + wrong + " wrong");
        if (wrong != 0 || checks == 0) {
            System.exit(1);
        }
    }

    private static void note(String what, boolean right, String got, String due) {
        checks++;
        if (!right) {
            wrong++;
            System.out.println(test + what + " answered " + got + ", due is " + due);
        }
    }
}
