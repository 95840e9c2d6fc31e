/** THE TAPE, THE RESULT, TOKENS and EXPRESSIONS: each sentence that names an edge, on both sides of it. */
public final class TapeEdgesTest {
    private static final String MARKS = "~!@$%^&*_-+=<>.?/";

    private static void tapeIsFull() {
        Script s = new Script("it would have more than 65536: IndexOutOfBoundsException");
        s.feed("(declare-const a Bool)(check-sat) ");
        s.x.end(16);
        for (int k = 0; k < 3276; k++) {
            s.x.feed(0x20202020, 0x20202020, 0x20202020, 0x20202020, 0x20202020);
        }
        s.shows(0, 65536);
        s.due("feed", Script.answer(() -> s.x.feed(0, 0, 0, 0, 0)), "IndexOutOfBoundsException");
        s.shows(0, 65536);
        s.due("end", s.x.end(65517), 65517);
        s.due("feed", Script.answer(() -> s.x.feed(0, 0, 0, 0, 0)), "IndexOutOfBoundsException");
        s.shows(0, 65517);
        s.due("end", s.x.end(65516), 65516);
        s.due("feed", s.x.feed(0x20202020, 0x20202020, 0x20202020, 0x20202020, 0x2020203b), 65536);
        s.due("run()", s.x.run(), 0);
        s.shows(0, 65536);
        s.due("end", s.x.end(16), 16);
        s.prints(" Bool)(check-sat)", "sat").shows(0, 0).shows(3, 1);
    }

    private static void tapeKeepsWhatIsRefused() {
        Script s = new Script("A call that throws changes nothing.");
        s.feed("(check-sat)").x.run();
        s.feed("(push 1)");
        s.due("end(-1)", Script.answer(() -> s.x.end(-1)), "IllegalArgumentException");
        s.due("end(9)", Script.answer(() -> s.x.end(9)), "IllegalArgumentException");
        s.due("word(-1)", Script.answer(() -> s.x.word(-1)), "IndexOutOfBoundsException");
        s.due("word(4)", Script.answer(() -> s.x.word(4)), "IndexOutOfBoundsException");
        s.due("count(-1)", Script.answer(() -> s.x.count(-1)), "IllegalArgumentException");
        s.due("count(10)", Script.answer(() -> s.x.count(10)), "IllegalArgumentException");
        s.shows(0, 8).shows(1, 4).shows(2, 0).shows(6, 1);
        s.due("end(8)", s.x.end(8), 8);
        s.due("word(3)", s.x.word(3), 10L << 56);
        s.due("result", s.result(), "sat\n");
        s.due("run()", s.x.run(), 1);
        s.shows(0, 0).shows(1, 0).shows(2, 1).shows(6, 0);
        s.due("word(0)", Script.answer(() -> s.x.word(0)), "IndexOutOfBoundsException");
        s.due("end(0)", s.x.end(0), 0);
        s.due("end(1)", Script.answer(() -> s.x.end(1)), "IllegalArgumentException");
    }

    private static void resultIsFull() {
        Script s = new Script("THE RESULT at most 16384 (what is printed beyond is lost)");
        s.feed("x ".repeat(910) + "(echo \"a\")");
        s.due("run()", s.x.run(), 911);
        s.shows(1, 16384).shows(0, 0);
        s.due("its last bytes", s.x.word(16380), 0x2261220a00000000L);
        s.feed("x ".repeat(910) + "(echo \"ab\")(push 7)(check-sat)x x ");
        s.due("run()", s.x.run(), 915);
        s.shows(1, 16384).shows(2, 7).shows(6, 1);
        s.due("its last bytes", s.x.word(16380), 0x2261622200000000L);
        s.due("word(16383)", s.x.word(16383), 0x2200000000000000L);
        s.due("word(16384)", Script.answer(() -> s.x.word(16384)), "IndexOutOfBoundsException");
        s.feed("x ".repeat(909) + "(echo \"\")");
        s.due("run()", s.x.run(), 910);
        s.shows(1, 16365);
        s.prints("(echo \"\")", "\"\"").shows(1, 3);
    }

    private static String kindOf(int c) {
        if (c == 9 || c == 10 || c == 13 || c == 32) {
            return "blank";
        }
        if (c >= '0' && c <= '9' || c >= 'a' && c <= 'z' || c >= 'A' && c <= 'Z' || MARKS.indexOf(c) >= 0) {
            return "sign";
        }
        return c == '"' || c == '|' || c == ';' || c == '(' ? "open" : c == '#' || c == ':' ? "head" : "none";
    }

    private static void everyByte() {
        for (int c = 0; c < 256; c++) {
            Script s = new Script("Anything else (a byte that begins none of these) is none, at once: byte " + c);
            String kind = kindOf(c);
            s.feed("" + (char) c);
            s.due("run()", s.x.run(), kind.equals("none") ? 1 : 0);
            s.due("result", s.result(), kind.equals("none") ? "(error \"syntax\")\n" : "");
            s.shows(0, kind.equals("none") ? 0 : 1);
            s.x.end(0);
            s.feed("(echo \"a\")" + (char) c + " (check-sat)");
            s.x.run();
            String then = "";
            if (kind.equals("sign")) {
                then = "(error \"command\")\nsat\n";
            } else if (kind.equals("blank")) {
                then = "sat\n";
            } else if (!kind.equals("open")) {
                then = "(error \"syntax\")\n";
            }
            s.due("with a blank behind", s.result(), "\"a\"\n" + then);
            s.shows(0, kind.equals("open") ? 13 : 0);
        }
    }

    private static void comments() {
        Script s = new Script("a ; and all up to the next 10 or 13 is one blank");
        s.prints("(check-sat;\")|(\n)", "sat").shows(0, 0);
        s.prints("(check-sat;\r)", "sat");
        s.prints("(declare-const;a\na;b\rBool;\n)").shows(3, 1);
        s.prints(";").shows(0, 1).prints("(check-sat)").shows(0, 12).prints("\t)").shows(0, 14);
        s.prints("\n(check-sat)", "sat").shows(0, 0);
        s.prints("(check-sat);x\n", "sat").shows(0, 3);
        s.prints("(check-sat)", "sat").shows(0, 0);
        s.prints("(assert a);(assert (not a))\r(check-sat)", "sat");
    }

    private static void signs() {
        Script s = new Script("SIGNS: letters, digits, ~ ! @ $ % ^ & * _ - + = < > . ? / as many as follow");
        s.does("(set-logic azAZ09" + MARKS + ")(set-logic " + MARKS + ")(set-logic -1)(set-logic +)");
        for (int k = 0; k < MARKS.length(); k++) {
            s.does("(set-logic " + MARKS.charAt(k) + ")(set-logic " + MARKS.charAt(k) + "0)(set-logic a" + MARKS.charAt(k) + ")");
        }
        s.does("(declare-const a9 Bool)(declare-const a9. Bool)").shows(3, 2);
    }

    private static void numerals() {
        Script s = new Script("all digits, and 0 or not beginning with 0: a NUMERAL; beginning with a digit otherwise: none");
        s.does("(push 0)(push 10)").shows(2, 10);
        for (String none : new String[] {"00", "01", "010", "1a", "0a", "1_", "0.", "9-", "0b1", "1e5"}) {
            s.prints("(push 1)(push " + none + ")(push 1)", "(error \"syntax\")").shows(0, 0);
            s.does("(pop 1)").shows(2, 10);
            s.does(none).shows(0, none.length());
            s.prints(" ", "(error \"syntax\")").shows(0, 0);
        }
        s.does("(set-info :a 1234567890123456789012345678901234567890)");
        s.prints("0", new String[0]).shows(0, 1).prints("\n", "(error \"command\")").shows(0, 1);
    }

    private static void bars() {
        Script s = new Script("| and all up to the next | (no 92 in it): a SYMBOL, the same as these bytes without the |");
        s.does("(declare-const || Bool)(declare-const |a b| Bool)(declare-const c Bool)(declare-const |\n;\"(#:| Bool)").shows(3, 4);
        s.refuses("(declare-const |c| Bool)", "name").refuses("(declare-const || Bool)", "name");
        s.prints("(assert |c|)(|check-sat|)(get-value (c |c| || |a b|))", "sat", "((c true) (|c| true) (|| false) (|a b| false))");
        s.prints("(set-info :a |b\\c|)", "(error \"syntax\")").shows(0, 0);
        s.prints("(set-info :a |\\| )", "(error \"syntax\")").shows(0, 0);
        s.does("(set-info :a |[{\u0001\u00ff|)");
        s.does("|\\").shows(0, 2).does("x").shows(0, 3).does("|").shows(0, 4).prints(" ", "(error \"syntax\")").shows(0, 0);
    }

    private static void keywords() {
        Script s = new Script("A : with SIGNS, one or more: a KEYWORD");
        s.does("(set-info :a b)(set-info :0 b)(set-info :01 b)(set-info :. b)(set-info:a:b)(set-info :a b)");
        s.prints("(set-info : a)", "(error \"syntax\")").shows(0, 0);
        s.prints("(set-info :(a))", "(error \"syntax\")").shows(0, 0);
        s.prints("(set-info ::a b)", "(error \"syntax\")").shows(0, 0);
        s.prints("(set-info :|a| b)", "(error \"syntax\")").shows(0, 0);
        s.prints("(set-info :a:b c)", "(error \"command\")");
        s.does(":").shows(0, 1).does("a").shows(0, 2).prints(" ", "(error \"command\")");
    }

    private static void literals() {
        Script s = new Script("#b with digits 0, 1, #x with 0 .. 9, a .. f, A .. F, one or more, as many as follow: a LITERAL");
        s.prints("(check-sat)", "sat");
        s.value("#b0", "#b0").value("#x09afAF", "#b000010011010111110101111");
        s.prints("(get-value (#b012))", "(error \"sort\")").prints("(get-value (#xfg))", "(error \"name\")");
        s.prints("(get-value (#b1#b0#x1#xF))", "((#b1 #b1) (#b0 #b0) (#x1 #b0001) (#xF #b1111))");
        for (String none : new String[] {"#", "#b", "#x", "#B1", "#X1", "#c", "#1", "#b2", "#xg", "##", "#(", "#bb1"}) {
            s.prints("(get-value (" + none + " ))", "(error \"syntax\")").shows(0, 0);
        }
        for (String part : new String[] {"#", "#b", "#x", "#b0", "#xf", "#b01"}) {
            s.does(part).shows(0, part.length());
            s.prints("\n", part.length() < 3 ? "(error \"syntax\")" : "(error \"command\")");
            s.x.end(0);
        }
    }

    private static void strings() {
        Script s = new Script("\" and all up to a \" that is not followed by another one (\"\" stands for one): a STRING");
        s.prints("(echo \"\")", "\"\"").prints("(echo \"\"\"\")", "\"\"\"\"").prints("(echo \"a\"\"b\")", "\"a\"\"b\"");
        s.prints("(echo \"|;(\\\n\u0000\u00ff\")", "\"|;(\\\n\u0000\u00ff\"");
        s.refuses("(echo \"a\" \"b\")", "command");
        s.does("\"a\"").shows(0, 3).does("\"").shows(0, 4).does("b").shows(0, 5).does("\"").shows(0, 6);
        s.prints(")", "(error \"command\")", "(error \"syntax\")").shows(0, 0);
    }

    private static void notWhole() {
        Script s = new Script("A TOKEN but ( and ), or a ; that reaches the end of THE TAPE is not whole");
        s.prints("(check-sat)abc", "sat").shows(0, 3).prints("", new String[0]).shows(0, 3);
        s.prints("(check-sat)", "(error \"command\")", "sat").shows(0, 0);
        s.does("|a|").shows(0, 3).prints("(check-sat)", "(error \"command\")", "sat").shows(0, 0);
        s.does("(check-sat").shows(0, 10).prints(")", "sat").shows(0, 0);
        s.does(" \t(").shows(0, 3).prints("check-sat)  ", "sat").shows(0, 2);
        s.x.end(0);
        s.does("((a) b").shows(0, 6).prints(")(", "(error \"command\")").shows(0, 1);
        s.x.end(0);
        s.prints("(check-sat) (foo [", "sat", "(error \"syntax\")").shows(0, 0);
        s.prints("((((((]", "(error \"syntax\")").shows(0, 0);
    }

    private static void closed() {
        Script s = new Script("a ) outside: ERROR syntax, and THE TAPE is empty");
        s.refuses(")", "syntax").shows(0, 0);
        s.prints("(push 1)(assert true))(push 1)(check-sat)", "(error \"syntax\")").shows(0, 0).shows(2, 1).shows(4, 1);
        s.prints("(check-sat)", "sat");
        s.refuses(" ) ", "syntax").shows(0, 0).shows(6, 1);
    }

    private static void deep() {
        Script s = new Script("a 101st ( that is open: ERROR syntax, and THE TAPE is empty");
        s.refuses("(".repeat(100) + ")".repeat(100), "command").shows(0, 0);
        s.does("(set-info :a " + "(".repeat(99) + ")".repeat(99) + ")");
        s.refuses("(set-info :a " + "(".repeat(100), "syntax").shows(0, 0);
        s.does("(".repeat(100)).shows(0, 100).refuses("(", "syntax").shows(0, 0);
        s.prints("(set-info :a " + "()".repeat(300) + ")", "(error \"command\")");
        s.does("(declare-const a Bool)");
        s.prints("(assert " + "(not ".repeat(98) + "a" + ")".repeat(98) + ")(check-sat)(get-value (a))", "sat", "((a true))");
        s.prints("(assert " + "(not ".repeat(99) + "a" + ")".repeat(99) + ")(check-sat)", "unsat");
        s.refuses("(assert " + "(not ".repeat(100), "syntax").shows(0, 0);
    }

    /** What was behind the end is gone, whatever it was. */
    private static void cutTapes() {
        String script = "(echo \"a\"\"b\") |a b| #b0101 #xaF :key word 1234 ; comment\n(push 12)(declare-const |a\n| (_ BitVec 12))(check-sat) ";
        for (int n = 0; n <= script.length(); n++) {
            Script cut = new Script("The TAPE keeps its first n bytes, n 0 .. its length.");
            Script fed = new Script("The TAPE keeps its first n bytes, n 0 .. its length.");
            cut.feed(script).due("end(" + n + ")", cut.x.end(n), n);
            fed.feed(script.substring(0, n));
            cut.due("end(" + n + "), run()", cut.x.run(), fed.x.run());
            cut.due("end(" + n + "), the result", cut.result(), fed.result());
            cut.due("end(" + n + "), the state", cut.state(), fed.state());
            cut.shows(0, fed.x.count(0));
            cut.feed(script.substring(n)).x.run();
            cut.shows(2, 12).shows(3, 1).shows(6, 1).shows(0, 1);
        }
    }

    public static void main(String[] args) {
        tapeIsFull();
        tapeKeepsWhatIsRefused();
        resultIsFull();
        everyByte();
        comments();
        signs();
        numerals();
        bars();
        keywords();
        literals();
        strings();
        notWhole();
        closed();
        deep();
        cutTapes();
        Script.end();
    }
}
