/** COMMANDS: each sentence that names an edge, on both sides of it, and what the object shows behind a refusal. */
public final class CommandEdgesTest {
    private static void refuseAll(Script s, String error, String... commands) {
        for (String command : commands) {
            s.refuses(command, error);
        }
    }

    private static void newObject() {
        Script s = new Script("No NAMES, no assertions; LEVEL 0; the TAPE and the RESULT are empty.");
        for (int what = 0; what <= 9; what++) {
            s.shows(what, 0);
        }
        s.due("run()", s.x.run(), 0);
        s.refuses("(get-value (true))", "model").refuses("(get-unsat-core)", "core").refuses("(pop 1)", "level");
        s.prints("(check-sat)", "sat").shows(6, 1);
    }

    private static void commandsAreCounted() {
        Script s = new Script("Answers how many COMMANDS were done or gave an ERROR (syntax, too).");
        s.due("run()", s.feed("").x.run(), 0);
        s.due("run()", s.feed("(check-sat)").x.run(), 1);
        s.due("run()", s.feed("(push 1)(foo)(pop 2)(echo").x.run(), 3);
        s.due("run()", s.feed(" \"a\")(push 1)) (push 1)").x.run(), 3);
        s.shows(2, 2).shows(0, 0);
        s.due("run()", s.feed("a \"b\" :c 1 #b1 () ]").x.run(), 7);
        s.due("run()", s.x.run(), 0);
        s.shows(1, 0);
    }

    private static void forms() {
        Script s = new Script("ERROR command: it is none of these, no ( ) with a SYMBOL first, or of another form");
        s.prints("(check-sat)", "sat");
        refuseAll(s, "command", "()", "(())", "((check-sat))", "(1)", "(\"check-sat\")", "(:check-sat)", "(#b1)", "(foo)", "(exit)",
                "(Check-sat)", "(check-sat-assumin ())", "(get-model)", "(get-values (true))", "(not true)", "(true)");
        refuseAll(s, "command", "(set-logic)", "(set-logic a b)", "(set-logic 1)", "(set-logic (a))", "(set-logic :a)",
                "(set-logic \"a\")", "(set-option)", "(set-option :a)", "(set-option a b)", "(set-option :a b c)",
                "(set-info)", "(set-info :a)", "(set-info a b)", "(set-info :a b c)", "(echo)", "(echo a)", "(echo \"a\" \"b\")",
                "(echo (\"a\"))", "(reset a)", "(reset 1)", "(reset ())");
        refuseAll(s, "command", "(declare-sort)", "(declare-sort S)", "(declare-sort S 1)", "(declare-sort S 10)", "(declare-sort S a)",
                "(declare-sort S 0 0)", "(declare-sort 0 0)", "(declare-sort (S) 0)", "(declare-sort S 18446744073709551616)",
                "(declare-sort S 4294967296)", "(declare-sort S #b0)");
        refuseAll(s, "command", "(declare-const)", "(declare-const c)", "(declare-const c Bool Bool)", "(declare-const 1 Bool)",
                "(declare-const (c) Bool)", "(declare-const :c Bool)", "(declare-const 1 Nope)");
        refuseAll(s, "command", "(declare-fun)", "(declare-fun f)", "(declare-fun f ())", "(declare-fun f () Bool Bool)",
                "(declare-fun f Bool Bool)", "(declare-fun 1 () Bool)", "(declare-fun f Nope Nope)");
        refuseAll(s, "command", "(define-fun)", "(define-fun f () Bool)", "(define-fun f () Bool true true)", "(define-fun f Bool Bool true)",
                "(define-fun 1 () Bool true)", "(define-fun f (x) Bool true)", "(define-fun f ((x)) Bool true)",
                "(define-fun f ((x Bool Bool)) Bool true)", "(define-fun f ((1 Bool)) Bool true)", "(define-fun f (()) Bool true)",
                "(define-fun f ((x Nope) (y)) Nope nope)", "(define-fun f (((x) Bool)) Bool true)");
        refuseAll(s, "command", "(push)", "(push a)", "(push 1 1)", "(push (1))", "(push #b1)", "(pop)", "(pop a)", "(pop 1 1)",
                "(assert)", "(assert true true)", "(assert nope nope)", "(check-sat true)", "(check-sat ())", "(check-sat-assuming)",
                "(check-sat-assuming true)", "(check-sat-assuming () ())", "(check-sat-assuming nope)", "(get-value)",
                "(get-value ())", "(get-value true)", "(get-value (true) (true))", "(get-value nope)", "(get-unsat-core ())",
                "(get-unsat-core a)");
        s.shows(6, 1);
    }

    /** In the place of @, one of each kind: those that are not of the kind named are refused. */
    private static void only(Script s, String error, String kinds, String form) {
        String[] each = {"symbol", "0", ":key", "#b1", "\"string\"", "()", "(list)"};
        String[] names = {"SYMBOL", "NUMERAL", "KEYWORD", "LITERAL", "STRING", "NONE", "LIST"};
        for (int k = 0; k < each.length; k++) {
            if (!kinds.contains(names[k])) {
                s.refuses(form.replace("@", each[k]), error);
            }
        }
    }

    private static void kinds() {
        Script s = new Script("What is wrong first is told: the form of the COMMAND");
        s.does("(declare-const a Bool)(declare-const x (_ BitVec 4))").prints("(check-sat)", "sat");
        for (String form : new String[] {"(@)", "(set-logic @)", "(declare-sort @ 0)", "(declare-const @ Bool)", "(declare-fun @ () Bool)",
            "(define-fun @ () Bool true)", "(define-fun f ((@ Bool)) Bool true)", "(define-fun f ((y Bool) (@ Bool)) Bool true)"}) {
            only(s, "command", form.equals("(@)") ? "" : "SYMBOL", form);
        }
        only(s, "command", "KEYWORD", "(set-option @ a)");
        only(s, "command", "KEYWORD", "(set-info @ a)");
        only(s, "command", "STRING", "(echo @)");
        only(s, "command", "NUMERAL", "(declare-sort S @)");
        only(s, "command", "NUMERAL", "(push @)");
        only(s, "command", "NUMERAL", "(pop @)");
        only(s, "command", "NONE LIST", "(declare-fun f @ Bool)");
        only(s, "command", "NONE", "(define-fun f @ Bool true)");
        only(s, "command", "", "(define-fun f (@) Bool true)");
        only(s, "command", "NONE LIST", "(check-sat-assuming @)");
        only(s, "command", "LIST", "(get-value @)");
        only(s, "command", "", "(get-unsat-core @)");
        only(s, "command", "", "(check-sat @)");
        only(s, "command", "", "(reset @)");
        only(s, "sort", "", "(declare-const c @)");
        only(s, "sort", "", "(declare-fun f (@) Bool)");
        only(s, "sort", "", "(declare-fun f () @)");
        only(s, "sort", "", "(define-fun f () @ true)");
        only(s, "sort", "", "(define-fun f ((y @)) Bool true)");
        only(s, "sort", "", "(declare-const c (_ BitVec @))");
        only(s, "sort", "", "(declare-const c (_ FloatingPoint @ 3))");
        only(s, "sort", "", "(declare-const c (_ FloatingPoint 3 @))");
        only(s, "sort", "", "(declare-const c (@ BitVec 3))");
        only(s, "sort", "", "(declare-const c (_ @ 3))");
        only(s, "sort", "SYMBOL LITERAL", "(assert @)");
        only(s, "sort", "SYMBOL", "(assert (! a :named @))");
        only(s, "sort", "", "(assert (! a @ n))");
        only(s, "sort", "SYMBOL LITERAL", "(assert (! @ :named n))");
        only(s, "sort", "SYMBOL", "(assert (@ a))");
        only(s, "sort", "SYMBOL", "(assert (let ((@ a)) a))");
        only(s, "sort", "SYMBOL LITERAL", "(assert (let ((b @)) b))");
        only(s, "sort", "", "(assert (let @ a))");
        only(s, "sort", "", "(assert (let (@) a))");
        only(s, "sort", "", "(assert (= x (_ bv1 @)))");
        only(s, "sort", "", "(assert (= x (_ @ 4)))");
        only(s, "sort", "", "(assert (fp.isNaN (_ NaN @ 3)))");
        only(s, "sort", "", "(assert (fp.isNaN (_ NaN 3 @)))");
        only(s, "sort", "NUMERAL", "(assert (= #b1 ((_ extract @ 0) x)))");
        only(s, "sort", "NUMERAL", "(assert (= #b1 ((_ extract 0 @) x)))");
        only(s, "sort", "SYMBOL", "(assert (= #b1 ((_ @ 0) x)))");
        only(s, "sort", "", "(assert (= #b1 ((@ extract 0 0) x)))");
        s.shows(3, 2).shows(4, 0).shows(6, 1);
    }

    private static void quiet() {
        Script s = new Script("(set-logic SYMBOL), (set-option KEYWORD EXPRESSION), (set-info KEYWORD EXPRESSION): nothing.");
        s.does("(declare-const a Bool)").prints("(check-sat)", "sat");
        String before = s.state();
        s.does("(set-logic ALL)(set-logic |a b|)(set-option :a b)(set-option :a 1)(set-option :a \"b\")(set-option :a (b (c) ()))");
        s.does("(set-info :a :b)(set-info :a #b1)(set-info :a ())(set-option :a nope)");
        s.due("the state", s.state(), before);
        s.value("a", "false");
    }

    private static void reset() {
        Script s = new Script("(reset): all is as at first, but for THE TAPE, THE RESULT and what count tells of faults.");
        s.does("(declare-sort S 0)(declare-const a Bool)(push 3)(define-fun f ((x Bool)) Bool (and x a))(assert (! (f a) :named n))");
        s.prints("(check-sat)", "sat").due("the state", s.state(), "3 4 1 " + s.x.count(5) + " 1");
        s.feed("(echo \"a\")(reset)(get-value (true))(check-sat)(get-value (a)) (");
        s.due("run()", s.x.run(), 5);
        s.due("result", s.result(), "\"a\"\n(error \"model\")\nsat\n(error \"name\")\n");
        s.shows(0, 2).shows(2, 0).shows(3, 0).shows(4, 0).shows(5, 0).shows(6, 1);
        s.x.end(0);
        s.refuses("(pop 1)", "level").refuses("(assert n)", "name").refuses("(declare-const b S)", "sort");
        s.does("(declare-const S Bool)").shows(3, 1);
        s.does("(declare-sort a 0)(declare-const f a)(declare-const n Bool)(assert n)").shows(3, 4).shows(4, 1).shows(5, 2);
    }

    private static void names() {
        Script s = new Script("It is a NAME already, or a word of those that SORTS and TERMS are written with: ERROR name");
        s.does("(declare-sort S 0)(declare-const c S)(declare-fun f (S) S)(define-fun d ((x S)) S x)(assert (! true :named n))");
        s.prints("(check-sat)", "sat");
        for (String name : new String[] {"S", "c", "f", "d", "n", "|S|", "Bool", "BitVec", "NaN", "+oo", "let", "!", "_", "and", "fp.to_sbv", "|_|"}) {
            s.refuses("(declare-sort " + name + " 0)", "name");
            s.refuses("(declare-const " + name + " Bool)", "name");
            s.refuses("(declare-fun " + name + " (S) S)", "name");
            s.refuses("(define-fun " + name + " () Bool true)", "name");
            s.refuses("(assert (! true :named " + name + "))", "name");
        }
        s.shows(6, 1);
        s.does("(declare-const assert Bool)(declare-const check-sat Bool)(declare-const Float32 Bool)(declare-const bool Bool)");
        s.shows(3, 9).shows(6, 0);
    }

    private static void sharedNames() {
        Script s = new Script("(SORTS and functions share their NAMES.)");
        s.does("(declare-sort a 0)").refuses("(declare-const a Bool)", "name").refuses("(assert a)", "name");
        s.does("(declare-const b Bool)").refuses("(declare-sort b 0)", "name").refuses("(declare-const c b)", "sort");
        s.does("(define-fun d () Bool b)").refuses("(declare-const c d)", "sort");
    }

    private static void constants() {
        Script s = new Script("A constant is a function without parameters.");
        s.does("(declare-fun a () (_ BitVec 2))(declare-const b (_ BitVec 2))(assert (distinct a b))");
        s.prints("(check-sat)(get-value (b a))", "sat", "((b #b01) (a #b00))");
        s.refuses("(get-value ((a)))", "sort").refuses("(get-value ((a b)))", "name");
    }

    private static void orderAtLast() {
        Script s = new Script("at last: that the NAME is there or a word, then parameters that are the same, then the SORT of the TERM, then ERROR full");
        s.does("(declare-const c Bool)");
        refuseAll(s, "sort", "(declare-const c Nope)", "(declare-fun c (Bool) Nope)", "(declare-fun c (Nope) Bool)",
                "(define-fun c ((x Nope)) Bool true)", "(define-fun c ((x Bool) (x Bool)) Nope true)", "(define-fun c () Bool 1)");
        refuseAll(s, "name", "(declare-const c Bool)", "(define-fun c ((x Bool) (x Bool)) Bool #b1)", "(define-fun c () Bool #b1)",
                "(define-fun d ((x Bool) (x Bool)) Bool #b1)", "(define-fun d ((x Bool) (y Bool) (x (_ BitVec 2))) Bool true)",
                "(define-fun d ((x Bool) (|x| Bool)) Bool true)", "(define-fun d () Bool nope)", "(define-fun and () Bool #b1)");
        refuseAll(s, "sort", "(define-fun d () Bool #b1)", "(define-fun d ((x Bool)) (_ BitVec 1) x)", "(define-fun d () (_ BitVec 2) #b1)");
        s.does("(define-fun d ((x Bool) (y Bool)) Bool x)(define-fun e ((|x| Bool)) Bool |x|)").shows(3, 3);
    }

    private static void parameters() {
        Script s = new Script("A parameter may be any SYMBOL, a word of those, too.");
        s.does("(declare-const a Bool)(define-fun f ((a (_ BitVec 2)) (true (_ BitVec 2)) (bvadd (_ BitVec 2)) (f Bool) (let Bool)) (_ BitVec 2)");
        s.does(" (ite (and f let) (bvadd a true) bvadd))");
        s.prints("(assert a)(check-sat)", "sat");
        s.value("(f #b01 #b10 #b00 true true)", "#b11").value("(f #b01 #b10 #b00 true false)", "#b00");
    }

    private static void push() {
        Script s = new Script("(push n), (pop n), NUMERALS 0 .. 1000 (a greater one: ERROR command; with 0 it is done, too); below 0, or above 1000: ERROR level");
        s.refuses("(pop 1)", "level").refuses("(pop 1000)", "level").refuses("(pop 1001)", "command").refuses("(push 1001)", "command");
        s.refuses("(push 18446744073709551617)", "command").refuses("(pop 4294967297)", "command");
        s.prints("(check-sat)", "sat").shows(6, 1).does("(push 0)").shows(2, 0).shows(6, 0);
        s.prints("(check-sat)", "sat").shows(6, 1).does("(pop 0)").shows(2, 0).shows(6, 0);
        s.does("(push 999)").shows(2, 999).refuses("(push 2)", "level").refuses("(push 1000)", "level");
        s.does("(push 1)").shows(2, 1000).refuses("(push 1)", "level").does("(push 0)(pop 0)").shows(2, 1000);
        s.prints("(check-sat)", "sat").refuses("(push 1)", "level").refuses("(push 1001)", "command").shows(6, 1);
        s.does("(pop 999)").shows(2, 1).refuses("(pop 2)", "level").does("(pop 1)").shows(2, 0).refuses("(pop 1)", "level");
        s.does("(push 1000)").shows(2, 1000).does("(pop 1000)").shows(2, 0);
    }

    private static void levels() {
        Script s = new Script("NAMES and assertions of LEVELS that are gone are gone");
        s.does("(declare-const a Bool)(assert a)(push 2)(declare-const b Bool)(assert (not b))(push 1)(declare-sort S 0)");
        s.does("(assert (! b :named n))(define-fun d () Bool b)").shows(3, 5).shows(4, 3).prints("(check-sat)", "unsat");
        s.does("(push 1)(pop 1)").shows(3, 5).shows(4, 3).prints("(check-sat)(get-unsat-core)", "unsat", "(n)");
        s.refuses("(pop 4)", "level").shows(3, 5).shows(4, 3);
        s.does("(pop 1)").shows(3, 2).shows(4, 2).shows(2, 2).refuses("(assert n)", "name").refuses("(assert d)", "name");
        s.refuses("(declare-const c S)", "sort").prints("(check-sat)(get-value (a b))", "sat", "((a true) (b false))");
        s.does("(declare-const n Bool)(declare-const S Bool)(assert n)").shows(3, 4).shows(4, 3);
        s.does("(pop 1)").shows(3, 1).shows(4, 1).shows(2, 1).refuses("(assert b)", "name");
        s.does("(pop 1)").shows(3, 1).shows(4, 1).prints("(check-sat-assuming ((not a)))", "unsat");
    }

    private static void asserts() {
        Script s = new Script("the TERM, of SORT Bool (else ERROR sort); SYMBOL is a NAME then (else ERROR name, behind ERROR sort)");
        s.does("(declare-const a Bool)").prints("(check-sat)", "sat");
        refuseAll(s, "sort", "(assert #b1)", "(assert RNE)", "(assert (_ NaN 2 2))", "(assert 1)", "(assert \"a\")", "(assert ())",
                "(assert (! #b1 :named a))", "(assert (! #b1 :named and))", "(assert (! #b1 :named n))");
        refuseAll(s, "name", "(assert nope)", "(assert (! true :named a))", "(assert (! true :named and))", "(assert (! nope :named n))",
                "(assert (! n :named n))");
        refuseAll(s, "sort", "(assert (!))", "(assert (! a))", "(assert (! a :named))", "(assert (! a :named 1))", "(assert (! a :name n))",
                "(assert (! a :named n m))", "(assert (! a n))", "(assert (! :named n))", "(assert (! a :named :n))", "(assert (! nope :name n))",
                "(assert (! (! a :named n) :named m))", "(assert (not (! a :named n)))");
        s.shows(6, 1).shows(3, 1).shows(4, 0);
        s.does("(assert (! a :named n))").shows(3, 2).shows(4, 1).shows(6, 0).refuses("(assert (! a :named n))", "name");
        s.does("(assert (! n :named |m 1|))(assert n)(assert a)(assert a)").shows(3, 3).shows(4, 5);
        s.prints("(check-sat)(get-value (n |m 1|))", "sat", "((n true) (|m 1| true))");
    }

    private static void checks() {
        Script s = new Script("(and these TERMS, of SORT Bool; there may be none; all are read before their SORTS are asked)");
        s.prints("(check-sat-assuming ())", "sat").shows(6, 1);
        s.does("(declare-const a Bool)(declare-const b Bool)(assert (or a b))");
        s.prints("(check-sat-assuming ())(check-sat-assuming (a))(check-sat-assuming ((not a) (not b)))", "sat", "sat", "unsat").shows(6, 2);
        refuseAll(s, "sort", "(check-sat-assuming (#b1))", "(check-sat-assuming (a #b1 b))", "(check-sat-assuming (a 1 nope))");
        refuseAll(s, "name", "(check-sat-assuming (nope))", "(check-sat-assuming (#b1 nope))", "(check-sat-assuming (#b1 nope 1))");
        s.shows(6, 2).prints("(get-unsat-core)(check-sat)(get-value (a b))", "()", "sat", "((a false) (b true))");
        s.prints("(check-sat-assuming (a a (not (not a))))(get-value (a b))", "sat", "((a true) (b false))");
        s.prints("(check-sat-assuming (false))(check-sat-assuming (true))", "unsat", "sat");
    }

    private static void mode() {
        Script s = new Script("The MODE is that answer; it is none at first, and behind each assert, push, pop, reset and each declare or define that was done.");
        String[] changing = {"(assert true)", "(assert (! true :named n))", "(push 1)", "(push 0)", "(pop 1)", "(pop 0)", "(declare-sort S 0)",
            "(declare-const c Bool)", "(declare-fun f (Bool) Bool)", "(declare-fun g () Bool)", "(define-fun d () Bool true)", "(reset)"};
        for (String command : changing) {
            s.prints("(check-sat)", "sat").shows(6, 1).does(command).shows(6, 0).refuses("(get-value (true))", "model").refuses("(get-unsat-core)", "core");
        }
        s.does("(declare-const c Bool)");
        for (String command : changing) {
            s.prints("(check-sat-assuming (c (not c)))", "unsat").shows(6, 2);
            if (!command.contains(" c ")) {
                s.does(command).shows(6, 0);
            }
            if (command.equals("(reset)")) {
                s.does("(declare-const c Bool)");
            }
        }
        Script keeps = new Script("(A COMMAND with an ERROR leaves the MODE, too.)");
        keeps.does("(declare-const c Bool)");
        for (String check : new String[] {"(check-sat)", "(check-sat-assuming (c (not c)))"}) {
            keeps.feed(check).x.run();
            refuseAll(keeps, "command", "(push 1001)", "(foo)", "(assert)");
            refuseAll(keeps, "level", "(pop 1)");
            refuseAll(keeps, "name", "(declare-const c Bool)", "(define-fun c () Bool true)", "(assert nope)", "(get-value (nope))");
            refuseAll(keeps, "sort", "(declare-const d Nope)", "(check-sat-assuming (#b1))", "(assert #b1)");
            refuseAll(keeps, "syntax", ")", "]", "01 ");
            keeps.does("(set-logic a)(set-info :a b)(set-option :a b)").prints("(echo \"a\")", "\"a\"");
            keeps.shows(6, check.equals("(check-sat)") ? 1 : 2);
        }
        keeps.refuses("(get-value (c))", "model").prints("(check-sat)", "sat").refuses("(get-unsat-core)", "core").value("c", "false");
    }

    private static void values() {
        Script s = new Script("(get-value (TERM ..)), one or more, read first: the MODE is not sat: ERROR model; one of an open SORT: ERROR value");
        s.does("(declare-sort S 0)(declare-const s S)(declare-const a Bool)(declare-fun f (S) S)");
        refuseAll(s, "command", "(get-value ())", "(get-value a)");
        refuseAll(s, "name", "(get-value (nope))", "(get-value (s nope))", "(get-value (a s nope))");
        refuseAll(s, "sort", "(get-value (1))", "(get-value (a (not s)))");
        refuseAll(s, "model", "(get-value (a))", "(get-value (s))", "(get-value (a s))");
        s.prints("(check-sat-assuming (a (not a)))", "unsat");
        refuseAll(s, "model", "(get-value (a))", "(get-value (s))");
        s.prints("(check-sat)", "sat");
        refuseAll(s, "value", "(get-value (s))", "(get-value (a s))", "(get-value (s a))", "(get-value ((f s)))", "(get-value ((ite a s s)))");
        refuseAll(s, "name", "(get-value (s nope))");
        s.prints("(get-value (a))", "((a false))").prints("(get-value (a a (= s s)))", "((a false) (a false) ((= s s) true))");
    }

    private static void leastModel() {
        Script s = new Script("all constants .. have each the least value .. in which those before have theirs; then each TERM asked since that check, in turn, likewise");
        s.does("(declare-const x (_ BitVec 2))(declare-fun f ((_ BitVec 2)) (_ BitVec 2))(declare-const y (_ BitVec 2))(assert (distinct x y (f x) (f y)))");
        s.prints("(check-sat)(get-value ((f y)))(get-value ((f x)))(get-value (y x))", "sat", "(((f y) #b10))", "(((f x) #b11))", "((y #b01) (x #b00))");
        s.prints("(check-sat)(get-value ((f x) (f y)))", "sat", "(((f x) #b10) ((f y) #b11))");
        s.prints("(get-value ((f y) (f x)))", "(((f y) #b11) ((f x) #b10))");
        s.refuses("(get-value ((f x) nope))", "name").prints("(check-sat)", "sat").refuses("(get-value ((f y) nope))", "name");
        s.prints("(get-value ((f x)))", "(((f x) #b10))");
        s.prints("(check-sat-assuming ((= y #b00)))(get-value (x y))", "sat", "((x #b01) (y #b00))");
        s.prints("(check-sat)(get-value (x y))", "sat", "((x #b00) (y #b01))");
    }

    private static void leastOrder() {
        Script s = new Script("Less is: false than true; the number without sign; of floating point that of all bits; RNE, RNA, RTP, RTN, RTZ in this order.");
        s.does("(declare-const b Bool)(declare-const x (_ BitVec 3))(declare-const f (_ FloatingPoint 2 3))(declare-const m RoundingMode)");
        s.prints("(check-sat)(get-value (b x f m))", "sat", "((b false) (x #b000) (f (fp #b0 #b00 #b00)) (m RNE))");
        String[] modes = {"RNE", "RNA", "RTP", "RTN", "RTZ"};
        StringBuilder not = new StringBuilder();
        for (int k = 0; k < 5; k++) {
            s.prints("(check-sat-assuming (true" + not + "))(get-value (m))", "sat", "((m " + modes[k] + "))");
            not.append(" (distinct m ").append(modes[k]).append(")");
        }
        s.prints("(check-sat-assuming (true" + not + "))", "unsat");
        s.prints("(check-sat-assuming ((bvslt x #b000)))(get-value (x))", "sat", "((x #b100))");
        s.prints("(check-sat-assuming ((fp.lt f (_ +zero 2 3))))(get-value (f))", "sat", "((f (fp #b1 #b00 #b01)))");
        s.prints("(check-sat-assuming ((not (fp.lt f (_ +oo 2 3)))))(get-value (f))", "sat", "((f (fp #b0 #b11 #b00)))");
        s.prints("(check-sat-assuming ((not (fp.leq f (_ +oo 2 3)))))(get-value (f))", "sat", "((f (_ NaN 2 3)))");
        s.prints("(check-sat-assuming ((distinct f (_ NaN 2 3)) (not (fp.leq f (_ +oo 2 3)))))", "unsat");
    }

    private static void printing() {
        Script s = new Script("TERMS as written, their TOKENS with one blank between, none behind ( or before )");
        s.does("(declare-const |a b| Bool)(declare-const x (_ BitVec 4))").prints("(check-sat)", "sat");
        s.prints("(get-value(|a b|(  not\t|a b| ;c\n)x#xf(bvadd\nx(bvnot x))((_ extract 0   0)x)(let((y x))y)))",
                "((|a b| false) ((not |a b|) true) (x #b0000) (#xf #b1111) ((bvadd x (bvnot x)) #b1111) (((_ extract 0 0) x) #b0) ((let ((y x)) y) #b0000))");
        s.prints("(get-value ((fp #b0 #b11 #b1) (fp #b1 #b10 #b0) RTZ (_ bv3 2)))",
                "(((fp #b0 #b11 #b1) (_ NaN 2 2)) ((fp #b1 #b10 #b0) (fp #b1 #b10 #b0)) (RTZ RTZ) ((_ bv3 2) #b11))");
    }

    private static void cores() {
        Script s = new Script("the MODE is not unsat: ERROR core; one is left out if without it, and those left out before, the rest is still unsat");
        s.refuses("(get-unsat-core)", "core").prints("(check-sat)", "sat").refuses("(get-unsat-core)", "core");
        s.does("(declare-const a Bool)(assert (! a :named |n 1|))(assert (! (not a) :named n2))(assert (! (and a true) :named n3))");
        s.refuses("(get-unsat-core)", "core");
        s.prints("(check-sat)(get-unsat-core)(get-unsat-core)", "unsat", "(n2 n3)", "(n2 n3)").shows(6, 2);
        s.prints("(check-sat-assuming (a))(get-unsat-core)", "unsat", "(n2)");
        s.prints("(check-sat-assuming (false))(get-unsat-core)", "unsat", "()");
        s.does("(push 1)(assert (not (and a true)))").prints("(check-sat)(get-unsat-core)", "unsat", "(n3)");
        s.does("(assert (! false :named n4))").prints("(check-sat)(get-unsat-core)", "unsat", "(n4)");
        s.does("(pop 1)(assert (not a))").prints("(check-sat)(get-unsat-core)", "unsat", "(n3)");
        s.does("(assert false)").prints("(check-sat)(get-unsat-core)", "unsat", "()");
        Script one = new Script("the SYMBOLS of the others, as written when they were NAMED");
        one.prints("(assert (! false :named |f|))(check-sat)(get-unsat-core)", "unsat", "(|f|)");
        one.does("(push 1)").prints("(assert (! true :named ||))(check-sat)(get-unsat-core)", "unsat", "(|f|)");
    }

    public static void main(String[] args) {
        newObject();
        commandsAreCounted();
        forms();
        kinds();
        quiet();
        reset();
        names();
        sharedNames();
        constants();
        orderAtLast();
        parameters();
        push();
        levels();
        asserts();
        checks();
        mode();
        values();
        leastModel();
        leastOrder();
        printing();
        cores();
        Script.end();
    }
}
