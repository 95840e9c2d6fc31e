import java.nio.charset.StandardCharsets;

/** The calls of the face: their ordinary answers, the edges that the document names, and wrong numbers. */
public final class FaceTest {
    private static int wrong = 0;

    private static void due(String what, Object got, Object want) {
        if (!String.valueOf(got).equals(String.valueOf(want))) {
            wrong++;
            System.out.println(what + " answered " + got + ", due is " + want);
        }
    }

    private interface Call {
        long make();
    }

    /** The answer, or the name of what was thrown. */
    private static Object answer(Call call) {
        try {
            return call.make();
        } catch (RuntimeException e) {
            return e.getClass().getSimpleName();
        }
    }

    private static int int4(byte[] bytes, int at) {
        int sum = 0;
        for (int k = 0; k < 4; k++) {
            sum = sum << 8 | (at + k < bytes.length ? bytes[at + k] & 255 : 32);
        }
        return sum;
    }

    /** Feeds a text behind what is on the tape, byte for byte. */
    private static void feed(ScriptSolver x, String text) {
        byte[] bytes = text.getBytes(StandardCharsets.ISO_8859_1);
        int before = x.count(0);
        for (int at = 0; at < bytes.length; at += 20) {
            x.feed(int4(bytes, at), int4(bytes, at + 4), int4(bytes, at + 8), int4(bytes, at + 12), int4(bytes, at + 16));
        }
        x.end(before + bytes.length);
    }

    private static String result(ScriptSolver x) {
        StringBuilder text = new StringBuilder();
        int length = x.count(1);
        for (int at = 0; at < length; at += 8) {
            long word = x.word(at);
            for (int k = 0; k < 8 && at + k < length; k++) {
                text.append((char) (word >>> 56 - 8 * k & 255));
            }
        }
        return text.toString();
    }

    private static void newObject() {
        ScriptSolver x = new ScriptSolver();
        for (int what = 0; what <= 9; what++) {
            due("count(" + what + ") of a new object", x.count(what), 0);
        }
        due("word(0) of a new object", answer(() -> x.word(0)), "IndexOutOfBoundsException");
        due("run() of a new object", x.run(), 0);
        due("end(0) of a new object", x.end(0), 0);
    }

    private static void feeding() {
        ScriptSolver x = new ScriptSolver();
        due("feed", x.feed(0x28636865, 0x636b2d73, 0x61742928, 0x6563686f, 0x20226122), 20);
        due("feed", x.feed(0x29202020, 0x20202020, 0x20202020, 0x20202020, 0x20202020), 40);
        due("run", x.run(), 2);
        due("result", result(x), "sat\n\"a\"\n");
        due("what is left", x.count(0), 19);
        for (int n = 39; n <= 65520; n += 20) {
            due("feed", x.feed(0, 0, 0, 0, 0), n);
        }
        due("the tape", x.count(0), 65519);
        due("feed beyond", answer(() -> x.feed(1, 2, 3, 4, 5)), "IndexOutOfBoundsException");
        due("the tape behind that", x.count(0), 65519);
        due("end", x.end(65516), 65516);
        due("feed to the brim", x.feed(0, 0, 0, 0, 0), 65536);
        due("feed beyond", answer(() -> x.feed(0, 0, 0, 0, 0)), "IndexOutOfBoundsException");
    }

    private static void ending() {
        ScriptSolver x = new ScriptSolver();
        feed(x, "(check-sat)(foo)    ");
        due("end(-1)", answer(() -> x.end(-1)), "IllegalArgumentException");
        due("end(21)", answer(() -> x.end(21)), "IllegalArgumentException");
        due("end(max)", answer(() -> x.end(Integer.MAX_VALUE)), "IllegalArgumentException");
        due("end(min)", answer(() -> x.end(Integer.MIN_VALUE)), "IllegalArgumentException");
        due("the tape", x.count(0), 20);
        due("end(20)", x.end(20), 20);
        due("end(11)", x.end(11), 11);
        due("run", x.run(), 1);
        due("result", result(x), "sat\n");
        due("the tape", x.count(0), 0);
        due("end(1)", answer(() -> x.end(1)), "IllegalArgumentException");
    }

    private static void words() {
        ScriptSolver x = new ScriptSolver();
        feed(x, "(echo \"\u00ff\u0001\")");
        due("run", x.run(), 1);
        due("length", x.count(1), 5);
        due("word(0)", x.word(0), 0x22ff01220a000000L);
        due("word(1)", x.word(1), 0xff01220a00000000L);
        due("word(4)", x.word(4), 0x0a00000000000000L);
        due("word(5)", answer(() -> x.word(5)), "IndexOutOfBoundsException");
        due("word(-1)", answer(() -> x.word(-1)), "IndexOutOfBoundsException");
        due("word(max)", answer(() -> x.word(Integer.MAX_VALUE)), "IndexOutOfBoundsException");
        due("run without anything", x.run(), 0);
        due("the result is empty then", x.count(1), 0);
        due("word(0)", answer(() -> x.word(0)), "IndexOutOfBoundsException");
    }

    private static void counts() {
        ScriptSolver x = new ScriptSolver();
        due("count(-1)", answer(() -> x.count(-1)), "IllegalArgumentException");
        due("count(10)", answer(() -> x.count(10)), "IllegalArgumentException");
        due("count(min)", answer(() -> x.count(Integer.MIN_VALUE)), "IllegalArgumentException");
        feed(x, "(declare-const a Bool)(push 3)(declare-sort S 0)(define-fun f ((x Bool)) Bool (not x))");
        feed(x, "(assert (! (f a) :named n))(assert true)(check-sat)  (");
        due("run", x.run(), 7);
        int[] want = {3, 4, 3, 4, 2, 10, 1, 0, 0, 0};
        for (int what = 0; what <= 9; what++) {
            due("count(" + what + ")", x.count(what), want[what]);
        }
        x.end(0);
        feed(x, "(pop 1)");
        due("run", x.run(), 1);
        int[] then = {0, 0, 2, 1, 0, 10, 0, 0, 0, 0};
        for (int what = 0; what <= 9; what++) {
            due("count(" + what + ") behind pop", x.count(what), then[what]);
        }
        feed(x, "(reset)");
        due("run", x.run(), 1);
        for (int what = 0; what <= 9; what++) {
            due("count(" + what + ") behind reset", x.count(what), 0);
        }
    }

    private static void longResult() {
        ScriptSolver x = new ScriptSolver();
        String line = "(echo \"" + "x".repeat(997) + "\")";
        for (int k = 0; k < 17; k++) {
            feed(x, line);
        }
        due("run", x.run(), 17);
        due("the result is cut", x.count(1), 16384);
        due("its last byte", x.word(16383), (long) 'x' << 56);
        due("word behind it", answer(() -> x.word(16384)), "IndexOutOfBoundsException");
    }

    public static void main(String[] args) {
        newObject();
        feeding();
        ending();
        words();
        counts();
        longResult();
        if (wrong != 0) {
            System.exit(1);
        }
    }
}
