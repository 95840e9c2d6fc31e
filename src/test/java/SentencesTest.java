/** Sentences of the document that can be read in more than one way: each as its words say most plainly. */
public final class SentencesTest {
    private static void parametersWeigh() {
        Script s = new Script("All different TERMS .. with definitions put in place, and in definitions with all their parameters");
        s.does("(define-fun f ((x Bool) (y (_ BitVec 8))) Bool true)").shows(5, 2 + 9 + 2);
        s.does("(define-fun g ((x Bool) (y (_ BitVec 8))) Bool true)").shows(5, 13 + 2 + 9);
        s.does("(define-fun h ((x Bool)) Bool (not x))").shows(5, 24 + 2 + 2);
        s.does("(assert (h true))").shows(5, 28 + 2).does("(assert (not true))").shows(5, 30);
        s.does("(assert (f false #x00))").shows(5, 30 + 2 + 9);
        Script refused = new Script("by COMMANDS that were done");
        refused.refuses("(define-fun f ((x Bool)) Bool #b1)", "sort").refuses("(define-fun f ((x Bool) (x Bool)) Bool x)", "name").shows(5, 0);
    }

    private static void parametersOfTwoDefinitions() {
        Script s = new Script("TERMS are the same if they are of the same .. parameter");
        s.does("(define-fun f ((x Bool)) Bool (not x))").shows(5, 4);
        s.does("(define-fun g ((x Bool)) Bool (not x))").shows(5, 8);
        s.does("(declare-const x Bool)(assert (not x))").shows(5, 12);
        s.does("(assert (f x))(assert (g x))(assert (f (g x)))").shows(5, 12 + 2);
    }

    private static void constantsThatAreGone() {
        Script s = new Script("TERMS are the same if they are of the same .. constant; NAMES .. of LEVELS that are gone are gone");
        s.does("(push 1)(declare-const c (_ BitVec 4))(assert (= c #x1))").shows(5, 5 + 5 + 9);
        s.does("(pop 1)(push 1)(declare-const c (_ BitVec 4))").shows(5, 19);
        s.does("(assert (= c #x1))").shows(5, 19 + 5 + 9);
        s.does("(assert (= c #x1))").shows(5, 33);
        s.does("(reset)").shows(5, 0).does("(declare-const c (_ BitVec 4))(assert (= c #x1))").shows(5, 19);
    }

    private static void sortsThatAreGone() {
        Script s = new Script("TERMS are the same if they are of the same function; NAMES .. of LEVELS that are gone are gone");
        s.does("(push 1)(declare-fun f (Bool) (_ BitVec 2))(assert (= (f true) (f false)))").shows(5, 2 + 2 + 4 + 7 + 5);
        s.does("(pop 1)(declare-fun f (Bool) (_ BitVec 2))(assert (= (f true) (f false)))").shows(5, 20 + 4 + 7 + 5);
        s.does("(push 1)(declare-sort S 0)(declare-const a S)(assert (= a a))").shows(5, 36 + 8 + 15);
        s.does("(pop 1)(declare-sort S 0)(declare-const a S)(assert (= a a))").shows(5, 59 + 8 + 15);
    }

    private static void words() {
        Script s = new Script("a word of those that SORTS and TERMS below are written with (Bool .. NaN, the OPERATIONS, let, !, _)");
        int names = 0;
        for (String word : new String[] {"set-logic", "set-option", "set-info", "echo", "reset", "declare-sort", "declare-const", "declare-fun",
            "define-fun", "push", "pop", "assert", "check-sat", "check-sat-assuming", "get-value", "get-unsat-core"}) {
            s.does("(declare-const " + word + " Bool)");
            names++;
            s.shows(3, names).refuses("(declare-const " + word + " Bool)", "name");
        }
        for (String word : new String[] {"bv", "bvn", "bv1", "bv12", "bool", "BOOL", "nan", "oo", "zero", "+", "-", "named", "as",
            "forall", "exists", "par", "Int", "fp.", "fp.rem", "fp.fma", "fp.isnan", "bvredor", "implies", "Float32", "to_fp_signed"}) {
            s.does("(declare-const |" + word + "| Bool)");
            names++;
            s.shows(3, names).refuses("(declare-const " + word + " Bool)", "name");
        }
        s.prints("(assert (and echo bv1))(check-sat)", "sat");
        s.value("(_ bv1 2)", "#b01").value("bv1", "true").value("bv12", "false");
    }

    private static void heads() {
        Script s = new Script("(heads go by these alone, whatever is bound)");
        s.does("(declare-fun assert (Bool) Bool)(assert (assert true))").shows(4, 1);
        s.prints("(check-sat)", "sat").value("(let ((assert false)) (assert true))", "true").value("(let ((not true)) (not not))", "false");
    }

    private static void endOfTape() {
        Script s = new Script("A TOKEN .. that reaches the end of THE TAPE is not whole, also if nothing behind could make it one");
        for (String token : new String[] {"01", "1a", "|a|", "|a\\", "|a\\b", "\"a\"", "\"a", "#", "#b", "#b0", "#x", ":", ":a", "a", "0", ";", "; a"}) {
            s.x.end(0);
            s.due(token + ", run()", s.feed(token).x.run(), 0);
            s.shows(1, 0).shows(0, token.length());
        }
        for (String token : new String[] {"#c", "#b2", "#xg", "# ", ":)", "01 ", "1a(", "|\\|)", "\\", "'", "[", ",", "\u0000", "\u00e9", ")"}) {
            s.x.end(0);
            s.due(token + ", run()", s.feed(token).x.run(), 1);
            s.due(token, s.result(), "(error \"syntax\")\n");
            s.shows(0, 0);
        }
    }

    private static void marked() {
        Script s = new Script("a (! ..) but in assert as told: at once, before parts");
        s.does("(declare-const a Bool)");
        for (String term : new String[] {"(!)", "(! a)", "(! a :named)", "(! a :named 1)", "(! a :named (b))", "(! a :name b)", "(! a :named b c)",
            "(! nope :name b)", "(! :named b)", "(! a named b)", "(not (! a :named b))", "(! (! a :named b) :named c)", "(|!| a)"}) {
            s.refuses("(assert " + term + ")", "sort");
        }
        s.refuses("(check-sat-assuming ((! nope :named b)))", "sort").refuses("(get-value ((! nope :named b)))", "sort");
        s.refuses("(define-fun b () Bool (! nope :named c))", "sort").refuses("(assert (! nope :named b))", "name");
        s.does("(assert (! a :named b))(assert (|!| b :named |!!|))").shows(3, 3).shows(4, 2);
    }

    private static void beyondTheGreatest() {
        Script s = new Script("What is beyond the greatest after rounding as if there were no end is infinite, or the greatest, as IEEE 754 has it");
        s.prints("(check-sat)", "sat");
        String greatest = "(fp #b0 #b10 #b111)";
        String least = "(fp #b1 #b10 #b111)";
        s.value("(fp.roundToIntegral RNE " + greatest + ")", "(fp #b0 #b11 #b000)").value("(fp.roundToIntegral RNA " + greatest + ")", "(fp #b0 #b11 #b000)");
        s.value("(fp.roundToIntegral RTP " + greatest + ")", "(fp #b0 #b11 #b000)").value("(fp.roundToIntegral RTN " + greatest + ")", "(fp #b0 #b10 #b100)");
        s.value("(fp.roundToIntegral RTZ " + greatest + ")", "(fp #b0 #b10 #b100)").value("(fp.roundToIntegral RTP " + least + ")", "(fp #b1 #b10 #b100)");
        s.value("(fp.roundToIntegral RTN " + least + ")", "(fp #b1 #b11 #b000)");
        String[] modes = {"RNE", "RNA", "RTP", "RTN", "RTZ"};
        String[] sums = {"(fp #b0 #b11 #b000)", "(fp #b0 #b11 #b000)", "(fp #b0 #b11 #b000)", greatest, greatest};
        for (int k = 0; k < modes.length; k++) {
            s.value("(fp.add " + modes[k] + " " + greatest + " " + greatest + ")", sums[k]);
        }
    }

    public static void main(String[] args) {
        parametersWeigh();
        parametersOfTwoDefinitions();
        constantsThatAreGone();
        sortsThatAreGone();
        words();
        heads();
        endOfTape();
        marked();
        beyondTheGreatest();
        Script.end();
    }
}
