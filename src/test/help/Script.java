import java.nio.charset.StandardCharsets;
import java.util.List;

/** One object under test; what it answers is held against what is due, under the sentence that asks for it. */
final class Script {
    private static int asked = 0;
    private static int wrong = 0;

    final ScriptSolver x = new ScriptSolver();
    private final String sentence;

    Script(String sentence) {
        this.sentence = sentence;
    }

    /** A call of the face, for what it throws. */
    interface Call {
        long make();
    }

    static String answer(Call call) {
        try {
            return String.valueOf(call.make());
        } catch (RuntimeException e) {
            return e.getClass().getSimpleName();
        }
    }

    void due(String what, Object got, Object want) {
        asked++;
        if (!String.valueOf(got).equals(String.valueOf(want))) {
            wrong++;
            System.out.println(sentence + "\n  " + what + " answered " + got + ", due is " + want);
        }
    }

    /** Four bytes as an int, blanks behind their end. */
    static int four(byte[] bytes, int at) {
        int sum = 0;
        for (int k = 0; k < 4; k++) {
            sum = sum << 8 | (at + k < bytes.length ? bytes[at + k] & 255 : 32);
        }
        return sum;
    }

    /** A text comes to THE TAPE, byte for byte. */
    static void feed(ScriptSolver x, String text) {
        byte[] bytes = text.getBytes(StandardCharsets.ISO_8859_1);
        int before = x.count(0);
        for (int at = 0; at < bytes.length; at += 20) {
            x.feed(four(bytes, at), four(bytes, at + 4), four(bytes, at + 8), four(bytes, at + 12), four(bytes, at + 16));
        }
        x.end(before + bytes.length);
    }

    static String result(ScriptSolver x) {
        StringBuilder text = new StringBuilder();
        int length = x.count(1);
        for (int at = 0; at < length; at += 8) {
            long word = x.word(at);
            for (int k = 0; k < 8 && at + k < length; k++) {
                text.append((char) (word >>> 56 - 8 * k & 255));
            }
        }
        return text.toString();
    }

    Script feed(String text) {
        feed(x, text);
        return this;
    }

    String result() {
        return result(x);
    }

    /** These COMMANDS print these lines. */
    Script prints(String script, String... lines) {
        StringBuilder want = new StringBuilder();
        for (String line : lines) {
            want.append(line).append('\n');
        }
        feed(script);
        x.run();
        due(brief(script), result(), want);
        due(brief(script) + ", faults", x.count(7) + " " + x.count(8) + " " + x.count(9), "0 0 0");
        return this;
    }

    /** These COMMANDS are done and print nothing. */
    Script does(String script) {
        return prints(script);
    }

    /** LEVEL, NAMES, assertions, WEIGHT, MODE. */
    String state() {
        return x.count(2) + " " + x.count(3) + " " + x.count(4) + " " + x.count(5) + " " + x.count(6);
    }

    /** This COMMAND gives an ERROR and changes nothing. */
    Script refuses(String command, String error) {
        String before = state();
        feed(command);
        due(brief(command) + ", run()", x.run(), 1);
        due(brief(command), result(), "(error \"" + error + "\")\n");
        due(brief(command) + ", LEVEL, NAMES, assertions, WEIGHT, MODE", state(), before);
        return this;
    }

    Script shows(int what, int want) {
        due("count(" + what + ")", x.count(what), want);
        return this;
    }

    /** The TERM has this value in THE MODEL. */
    Script value(String term, String value) {
        return prints("(get-value (" + term + "))", "((" + term + " " + value + "))");
    }

    /** The TERMS, asked for at once under what is assumed, have these values. */
    Script asks(String assumed, List<String> terms, List<String> values) {
        StringBuilder want = new StringBuilder("(");
        for (int k = 0; k < terms.size(); k++) {
            want.append(k == 0 ? "(" : " (").append(terms.get(k)).append(' ').append(values.get(k)).append(')');
        }
        String script = "(check-sat-assuming (" + assumed + "))(get-value (" + String.join(" ", terms) + "))";
        return prints(script, "sat", want.append(')').toString());
    }

    private static String brief(String script) {
        return script.length() <= 200 ? script : script.substring(0, 200) + " ..";
    }

    static void end() {
        System.out.println(asked + " answers, " + wrong + " wrong");
        if (wrong != 0 || asked == 0) {
            System.exit(1);
        }
    }
}
