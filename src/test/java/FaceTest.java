/** The calls of the face: their ordinary answers, the edges that the document names, and wrong numbers. */
public final class FaceTest {
    private static int wrong = 0;

    private static void due(String what, Object got, Object want) {
        if (!String.valueOf(got).equals(String.valueOf(want))) {
            wrong++;
            System.out.println(what + " answered " + got + ", due is " + want);
        }
    }

    private static void newObject() {
        ScriptSolver x = new ScriptSolver();
        for (int what = 0; what <= 9; what++) {
            due("count(" + what + ") of a new object", x.count(what), 0);
        }
        due("word(0) of a new object", Script.answer(() -> x.word(0)), "IndexOutOfBoundsException");
        due("run() of a new object", x.run(), 0);
        due("end(0) of a new object", x.end(0), 0);
    }

    private static void feeding() {
        ScriptSolver x = new ScriptSolver();
        due("feed", x.feed(0x28636865, 0x636b2d73, 0x61742928, 0x6563686f, 0x20226122), 20);
        due("feed", x.feed(0x29202020, 0x20202020, 0x20202020, 0x20202020, 0x20202020), 40);
        due("run", x.run(), 2);
        due("result", Script.result(x), "sat\n\"a\"\n");
        due("what is left", x.count(0), 19);
        for (int n = 39; n <= 65520; n += 20) {
            due("feed", x.feed(0, 0, 0, 0, 0), n);
        }
        due("the tape", x.count(0), 65519);
        due("feed beyond", Script.answer(() -> x.feed(1, 2, 3, 4, 5)), "IndexOutOfBoundsException");
        due("the tape behind that", x.count(0), 65519);
        due("end", x.end(65516), 65516);
        due("feed to the brim", x.feed(0, 0, 0, 0, 0), 65536);
        due("feed beyond", Script.answer(() -> x.feed(0, 0, 0, 0, 0)), "IndexOutOfBoundsException");
    }

    private static void ending() {
        ScriptSolver x = new ScriptSolver();
        Script.feed(x, "(check-sat)(foo)    ");
        due("end(-1)", Script.answer(() -> x.end(-1)), "IllegalArgumentException");
        due("end(21)", Script.answer(() -> x.end(21)), "IllegalArgumentException");
        due("end(max)", Script.answer(() -> x.end(Integer.MAX_VALUE)), "IllegalArgumentException");
        due("end(min)", Script.answer(() -> x.end(Integer.MIN_VALUE)), "IllegalArgumentException");
        due("the tape", x.count(0), 20);
        due("end(20)", x.end(20), 20);
        due("end(11)", x.end(11), 11);
        due("run", x.run(), 1);
        due("result", Script.result(x), "sat\n");
        due("the tape", x.count(0), 0);
        due("end(1)", Script.answer(() -> x.end(1)), "IllegalArgumentException");
    }

    private static void words() {
        ScriptSolver x = new ScriptSolver();
        Script.feed(x, "(echo \"\u00ff\u0001\")");
        due("run", x.run(), 1);
        due("length", x.count(1), 5);
        due("word(0)", x.word(0), 0x22ff01220a000000L);
        due("word(1)", x.word(1), 0xff01220a00000000L);
        due("word(4)", x.word(4), 0x0a00000000000000L);
        due("word(5)", Script.answer(() -> x.word(5)), "IndexOutOfBoundsException");
        due("word(-1)", Script.answer(() -> x.word(-1)), "IndexOutOfBoundsException");
        due("word(max)", Script.answer(() -> x.word(Integer.MAX_VALUE)), "IndexOutOfBoundsException");
        due("run without anything", x.run(), 0);
        due("the result is empty then", x.count(1), 0);
        due("word(0)", Script.answer(() -> x.word(0)), "IndexOutOfBoundsException");
    }

    private static void counts() {
        ScriptSolver x = new ScriptSolver();
        due("count(-1)", Script.answer(() -> x.count(-1)), "IllegalArgumentException");
        due("count(10)", Script.answer(() -> x.count(10)), "IllegalArgumentException");
        due("count(min)", Script.answer(() -> x.count(Integer.MIN_VALUE)), "IllegalArgumentException");
        Script.feed(x, "(declare-const a Bool)(push 3)(declare-sort S 0)(define-fun f ((x Bool)) Bool (not x))");
        Script.feed(x, "(assert (! (f a) :named n))(assert true)(check-sat)  (");
        due("run", x.run(), 7);
        int[] want = {3, 4, 3, 4, 2, 10, 1, 0, 0, 0};
        for (int what = 0; what <= 9; what++) {
            due("count(" + what + ")", x.count(what), want[what]);
        }
        x.end(0);
        Script.feed(x, "(pop 1)");
        due("run", x.run(), 1);
        int[] then = {0, 0, 2, 1, 0, 10, 0, 0, 0, 0};
        for (int what = 0; what <= 9; what++) {
            due("count(" + what + ") behind pop", x.count(what), then[what]);
        }
        Script.feed(x, "(reset)");
        due("run", x.run(), 1);
        for (int what = 0; what <= 9; what++) {
            due("count(" + what + ") behind reset", x.count(what), 0);
        }
    }

    private static void longResult() {
        ScriptSolver x = new ScriptSolver();
        String line = "(echo \"" + "x".repeat(997) + "\")";
        for (int k = 0; k < 17; k++) {
            Script.feed(x, line);
        }
        due("run", x.run(), 17);
        due("the result is cut", x.count(1), 16384);
        due("its last byte", x.word(16383), (long) 'x' << 56);
        due("word behind it", Script.answer(() -> x.word(16384)), "IndexOutOfBoundsException");
    }

    public static void main(String[] args) {
        newObject();
        feeding();
        ending();
        words();
        counts();
        longResult();
        if (wrong != 0) {
            System.exit(1);
        }
    }
}
