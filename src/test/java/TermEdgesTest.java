/** SORTS and TERMS: each number that has a range, each form, on both sides of the edge. */
public final class TermEdgesTest {
    private static Script ready(String sentence) {
        Script s = new Script(sentence);
        s.does("(declare-sort S 0)(declare-const s S)(declare-const a Bool)(declare-const m RoundingMode)(declare-fun g (S Bool) (_ BitVec 3))");
        s.does("(declare-const x (_ BitVec 4))(declare-const y (_ BitVec 63))(declare-const z (_ BitVec 64))(declare-const u (_ BitVec 1))");
        s.does("(declare-const h (_ FloatingPoint 2 2))(declare-const k (_ FloatingPoint 2 3))(define-fun d ((p Bool) (q S)) Bool p)");
        return s.prints("(check-sat)", "sat");
    }

    private static void wrong(Script s, String error, String... terms) {
        for (String term : terms) {
            s.refuses("(get-value (" + term + "))", error);
        }
    }

    /** The TERM is one, of the SORT. */
    private static void right(Script s, String sort, String term) {
        int names = s.x.count(3);
        s.does("(push 1)(define-fun new () " + sort + " " + term + ")").shows(3, names + 1).does("(pop 1)");
        s.feed("(check-sat)").x.run();
    }

    private static void bitVectors() {
        Script s = new Script("(_ BitVec n), n 1 .. 64");
        s.does("(declare-const a (_ BitVec 1))(declare-const b (_ BitVec 64))(declare-fun f ((_ BitVec 64)) (_ BitVec 1))").shows(3, 3);
        for (String n : new String[] {"0", "65", "100", "1000", "4294967297", "18446744073709551617"}) {
            s.refuses("(declare-const c (_ BitVec " + n + "))", "sort").refuses("(declare-fun c ((_ BitVec " + n + ")) Bool)", "sort");
            s.refuses("(define-fun c () (_ BitVec " + n + ") #b1)", "sort").refuses("(define-fun c ((p (_ BitVec " + n + "))) Bool true)", "sort");
        }
        for (String sort : new String[] {"(_ BitVec)", "(_ BitVec 1 1)", "(_ BitVec a)", "(_ BitVec #b1)", "(BitVec 1)", "BitVec", "(_ bitvec 1)",
            "(_ BitVec (1))", "(|_| BitVec)", "(_)", "()", "(_ 1 1)", "(! BitVec 1)"}) {
            s.refuses("(declare-const c " + sort + ")", "sort");
        }
        s.does("(declare-const c (|_| |BitVec| 2))").shows(3, 4);
    }

    private static void floats() {
        Script s = new Script("(_ FloatingPoint e s), e 2 .. 5, s 2 .. 11 | Float16, the same as e 5, s 11");
        for (int e = 0; e <= 7; e++) {
            for (int n = 0; n <= 13; n++) {
                String sort = "(_ FloatingPoint " + e + " " + n + ")";
                if (e >= 2 && e <= 5 && n >= 2 && n <= 11) {
                    s.does("(push 1)(declare-const c " + sort + ")").shows(3, 1).does("(pop 1)");
                } else {
                    s.refuses("(declare-const c " + sort + ")", "sort");
                }
            }
        }
        for (String sort : new String[] {"(_ FloatingPoint 5)", "(_ FloatingPoint 5 11 1)", "(_ FloatingPoint)", "FloatingPoint", "(_ Float16)",
            "(_ Float16 1)", "Float32", "(_ FloatingPoint 18446744073709551621 11)", "(_ FloatingPoint 5 4294967307)"}) {
            s.refuses("(declare-const c " + sort + ")", "sort");
        }
        s.does("(declare-const c Float16)(assert (= c ((_ to_fp 5 11) #x0000)))(define-fun d () (_ FloatingPoint 5 11) c)").shows(3, 2);
    }

    private static void sorts() {
        Script s = new Script("Bool | RoundingMode | a declared one .. Others: ERROR sort.");
        s.does("(declare-sort S 0)(declare-const a Bool)(declare-const b RoundingMode)(declare-const c S)(declare-fun f (Bool S RoundingMode) S)").shows(3, 5);
        for (String sort : new String[] {"T", "a", "f", "true", "RNE", "1", "#b1", "\"Bool\"", ":Bool", "(Bool)", "(S)", "(_ S 1)", "Real", "Int", "bool", "_"}) {
            s.refuses("(declare-const d " + sort + ")", "sort");
        }
    }

    private static void symbols() {
        Script s = ready("bound by a let or a parameter, the innermost; else a NAME of a constant, or true, false, RNE .. RTZ; others: ERROR name");
        wrong(s, "name", "nope", "S", "g", "d", "Bool", "and", "bvadd", "NaN", "+oo", "let", "_", "!", "bv1", "Float16");
        s.value("true", "true").value("false", "false").value("RNE", "RNE").value("RTZ", "RTZ").value("a", "false");
        s.value("(let ((a true)) (let ((a (not a)) (b a)) (and (not a) b)))", "true");
        s.value("(let ((a #b1)) (let ((b a)) (let ((a #b0)) (concat a b))))", "#b01");
        s.value("(let ((S true)) S)", "true").value("(let ((g #b1)) g)", "#b1").value("(let ((let true) (_ false) (! true)) (and let ! (not _)))", "true");
        s.value("(let ((g #b1)) (g s a))", "#b000").value("(let ((not true)) (not not))", "false");
        s.value("(let ((b true)) b)", "true").prints("(get-value (a a a a a a a))", "((a false) (a false) (a false) (a false) (a false) (a false) (a false))");
        wrong(s, "name", "(let ((f true)) (f a))", "(let ((b a) (c b)) c)", "(and (let ((b a)) b) b)");
        wrong(s, "sort", "1", "0", "\"a\"", ":a", "()");
    }

    private static void literals() {
        Script s = ready("A LITERAL of at most 64 bits (4 for a digit behind #x)");
        s.value("#b" + "1".repeat(64), "#b" + "1".repeat(64)).value("#x" + "8".repeat(16), "#b" + "1000".repeat(16));
        wrong(s, "sort", "#b" + "0".repeat(65), "#x" + "0".repeat(17), "#b" + "1".repeat(200), "#x" + "f".repeat(200));
        right(s, "(_ BitVec 1)", "#b1");
        right(s, "(_ BitVec 4)", "#x1");
        right(s, "(_ BitVec 64)", "#x0123456789abcdef");
    }

    private static void numbers() {
        Script s = ready("(_ bvn w), n a NUMERAL, w 1 .. 64: the LITERAL of w bits that is n modulo 2^w");
        s.value("(_ bv0 1)", "#b0").value("(_ bv1 1)", "#b1").value("(_ bv2 1)", "#b0").value("(_ bv15 4)", "#b1111").value("(_ bv16 4)", "#b0000").value("(_ bv17 4)", "#b0001");
        s.value("(_ bv18446744073709551615 64)", "#b" + "1".repeat(64)).value("(_ bv18446744073709551616 64)", "#b" + "0".repeat(64));
        s.value("(_ bv18446744073709551621 64)", "#b" + "0".repeat(61) + "101").value("(_ bv18446744073709551621 3)", "#b101");
        s.value("(_ bv1" + "0".repeat(80) + "7 3)", "#b111").value("(_ |bv5| 3)", "#b101");
        wrong(s, "sort", "(_ bv1 0)", "(_ bv1 65)", "(_ bv1 18446744073709551617)", "(_ bv 4)", "(_ bv01 4)", "(_ bv1a 4)", "(_ bv-1 4)",
                "(_ bv1)", "(_ bv1 4 4)", "(_ bv1 a)", "(_ bv1 #b1)", "(_ BV1 4)", "(_ b1 4)", "(_ bw1 4)", "(_ av1 4)", "(_ nope 4)", "(_)", "(_ 1 4)", "(_ true 1)", "(_ bv1 (4))");
        right(s, "(_ BitVec 64)", "(_ bv7 64)");
        right(s, "Bool", "(= (_ bv10 4) #b1010 #xa)");
    }

    private static void specials() {
        Script s = ready("(_ +oo e s), (_ -oo e s), (_ +zero e s), (_ -zero e s), (_ NaN e s)");
        s.value("(_ +oo 2 2)", "(fp #b0 #b11 #b0)").value("(_ -oo 5 11)", "(fp #b1 #b11111 #b0000000000)").value("(_ +zero 2 11)", "(fp #b0 #b00 #b0000000000)");
        s.value("(_ -zero 5 2)", "(fp #b1 #b00000 #b0)").value("(_ NaN 3 10)", "(_ NaN 3 10)").value("(_ NaN 5 11)", "(_ NaN 5 11)");
        for (String word : new String[] {"+oo", "-oo", "+zero", "-zero", "NaN"}) {
            wrong(s, "sort", "(_ " + word + " 1 2)", "(_ " + word + " 6 2)", "(_ " + word + " 2 1)", "(_ " + word + " 2 12)", "(_ " + word + " 2)",
                    "(_ " + word + " 2 2 2)", "(_ " + word + ")", "(_ " + word + " 4294967298 2)", "(_ " + word + " a 2)", "((_ " + word + " 2 2))");
            wrong(s, "name", "((_ " + word + " 2 2) a)", word);
        }
    }

    private static void lets() {
        Script s = ready("(let ((SYMBOL TERM) ..) TERM), one or more: two the same: ERROR name, before its last TERM is read");
        s.value("(let ((b true)) b)", "true").value("(let ((b true) (c false) (e true)) (and b e))", "true");
        wrong(s, "sort", "(let)", "(let ())", "(let () a)", "(let a a)", "(let ((b a)))", "(let ((b a)) b b)", "(let ((b)) a)", "(let ((b a a)) a)",
                "(let ((1 a)) a)", "(let (b a) a)", "(let (((b) a)) a)", "(let (()) a)", "(let ((b a) c) a)", "(let nope nope)", "(let ((b nope)) b b)");
        wrong(s, "name", "(let ((b a) (b a)) b)", "(let ((b a) (c a) (|b| #b1)) 1)", "(let ((b a) (b a)) (not #b1))", "(let ((b nope) (b 1)) b)");
        wrong(s, "sort", "(let ((b 1) (b a)) b)", "(let ((b a) (b 1)) b)", "(let ((b a)) (not #b1))");
    }

    private static void heads() {
        Script s = ready("f a SYMBOL, or (_ SYMBOL NUMERAL ..) with NUMERALS of at most 1000, one or more (else ERROR sort, at once)");
        wrong(s, "sort", "((_ extract 1001 0) nope)", "((_ extract 0 1001) nope)", "((_ nope 1001) nope)", "((_ extract) nope)", "((_ extract a) nope)",
                "((_ extract 0 a) nope)", "((_ 1 1) nope)", "((_ extract #b0) nope)", "(1 nope)", "(#b1 nope)", "(\"a\" nope)", "(:a nope)", "(() nope)",
                "((not) nope)", "((as not) nope)", "(((_ extract 0 0)) nope)", "((_ extract 18446744073709551616 0) nope)", "((_) nope)");
        wrong(s, "name", "((_ extract 1000 0) nope)", "((_ extract 0 1000) nope)", "((_ nope 1000) a)", "((_ nope 1) a)", "((_ bv1 4) a)", "(nope a)",
                "(nope nope)", "(a a)", "(S a)", "(true a)", "(Bool a)", "((_ S 1) a)");
        Script t = ready("(! ..) but in assert as told, and ( ) without TERMS behind f: at once, before parts");
        wrong(t, "sort", "(nope)", "(not)", "((_ nope 1))", "((_ extract 0 0))", "()", "(())", "(! nope)", "(! nope :named b)", "(! a :named b)",
                "(and (! a :named b) nope)", "(and (not) nope)", "(and a ())");
        wrong(t, "name", "(and nope (! a :named b))", "(and nope (not))", "(and nope ())");
        Script u = ready("behind the parts: the SYMBOL is no NAME of a function with parameters, and no OPERATION below: ERROR name; NUMERALS or parts do not fit: ERROR sort");
        wrong(u, "sort", "(nope 1)", "(g 1)", "((_ g 1) s a)", "((_ d 1) a s)", "((_ and 1) a a)", "((_ bvadd 1) x x)", "(extract x)", "(zero_extend x)",
                "(rotate_left x)", "(to_fp x)", "((_ extract 1) x)", "((_ extract 1 1 1) x)", "((_ zero_extend 1 1) x)", "((_ to_fp 2) x)", "((_ to_fp 2 2 2) x)",
                "((_ fp.to_ubv 2 2) m h)", "(g s)", "(g s a a)", "(g a s)", "(g s u)", "(d a)", "(d s a)", "(d a s s)");
        wrong(u, "name", "(nope nope)", "(g nope)", "(nope s a)", "(not nope a)");
        u.value("(g s a)", "#b000").value("(d true s)", "true");
    }

    private static void partsFirst() {
        Script s = ready("SORTS and TERMS from left to right, the parts of a TERM before itself");
        wrong(s, "name", "(not nope #b1)", "(and nope 1)", "(bvadd a nope)", "(= (not a) (nope a nope) 1)", "(and (nope a) (not x))");
        wrong(s, "sort", "(and 1 nope)", "(and (not x) nope)", "(bvadd x 1 nope)", "(not (not x) nope)", "(nope (not x))", "(nope (not x) nope)");
    }

    /** With each number of parts from 1 to 5 of this one: those from low to high are right. */
    private static void arity(Script s, String f, String part, String sort, int low, int high) {
        for (int n = 1; n <= 5; n++) {
            String term = "(" + f + (" " + part).repeat(n) + ")";
            if (n >= low && n <= high) {
                right(s, sort, term);
            } else {
                wrong(s, "sort", term);
            }
        }
    }

    private static void core() {
        Script s = ready("Of Bool: not 1; and, or, xor, => 2 or more. Of any SORT, 2 or more of the same: =, distinct. (ite c a b): a, b of one SORT.");
        arity(s, "not", "a", "Bool", 1, 1);
        for (String f : new String[] {"and", "or", "xor", "=>"}) {
            arity(s, f, "a", "Bool", 2, 5);
            wrong(s, "sort", "(" + f + " a u)", "(" + f + " u u)", "(" + f + " a a s)", "(" + f + " m a)");
        }
        for (String f : new String[] {"=", "distinct"}) {
            for (String part : new String[] {"a", "x", "h", "m", "s"}) {
                arity(s, f, part, "Bool", 2, 5);
            }
            wrong(s, "sort", "(" + f + " a u)", "(" + f + " x u)", "(" + f + " h k)", "(" + f + " m s)", "(" + f + " x x u)", "(" + f + " y z)");
        }
        wrong(s, "sort", "(not u)", "(ite a x)", "(ite a x x x)", "(ite u x x)", "(ite a x u)", "(ite a h k)", "(ite x x x)", "(ite a a u)");
        right(s, "S", "(ite a s s)");
        right(s, "(_ FloatingPoint 2 3)", "(ite a k k)");
        right(s, "RoundingMode", "(ite a m RNE)");
        right(s, "Bool", "(ite a a a)");
        s.value("(=> true false true)", "true").value("(=> true true false)", "false").value("(=> false false false)", "true");
        s.value("(xor true true true)", "true").value("(xor true true true true)", "false").value("(= true true false)", "false");
        s.value("(distinct #b00 #b01 #b10 #b11)", "true").value("(distinct #b00 #b01 #b10 #b00)", "false");
        s.value("(= #b1 #b1 #b1 #b0)", "false").value("(= #b1 #b1 #b1)", "true").value("(= #b0 #b1 #b0)", "false");
        s.does("(reset)(declare-const a Bool)(declare-const b Bool)(declare-const c Bool)(declare-const m RoundingMode)");
        s.prints("(check-sat-assuming ((distinct a b)))(check-sat-assuming ((distinct a b c)))", "sat", "unsat");
        s.prints("(check-sat-assuming ((distinct m RNE RNA RTP RTN)))(check-sat-assuming ((distinct m RNE RNA RTP RTN RTZ)))", "sat", "unsat");
    }

    private static void shapes() {
        Script s = ready("concat, 2 or more; (_ extract i j), i not below j; (_ repeat k), k 1 or more here; the result has at most 64 bits");
        right(s, "(_ BitVec 64)", "(concat y u)");
        right(s, "(_ BitVec 64)", "(concat x x x x x x x x x x x x x x x x)");
        wrong(s, "sort", "(concat x)", "(concat y u u)", "(concat z u)", "(concat y x)", "(concat x a)", "(concat a x)", "(concat x h)");
        right(s, "(_ BitVec 4)", "((_ extract 3 0) x)");
        right(s, "(_ BitVec 1)", "((_ extract 3 3) x)");
        right(s, "(_ BitVec 1)", "((_ extract 0 0) x)");
        right(s, "(_ BitVec 1)", "((_ extract 63 63) z)");
        right(s, "(_ BitVec 64)", "((_ extract 63 0) z)");
        wrong(s, "sort", "((_ extract 4 0) x)", "((_ extract 4 4) x)", "((_ extract 0 1) x)", "((_ extract 2 3) x)", "((_ extract 64 0) z)", "((_ extract 1000 0) x)",
                "((_ extract 1 0) x x)", "((_ extract 0 0) a)", "((_ extract 0 0) h)");
        for (String f : new String[] {"zero_extend", "sign_extend"}) {
            right(s, "(_ BitVec 4)", "((_ " + f + " 0) x)");
            right(s, "(_ BitVec 64)", "((_ " + f + " 60) x)");
            right(s, "(_ BitVec 64)", "((_ " + f + " 63) u)");
            right(s, "(_ BitVec 64)", "((_ " + f + " 0) z)");
            wrong(s, "sort", "((_ " + f + " 61) x)", "((_ " + f + " 1) z)", "((_ " + f + " 1000) x)", "((_ " + f + " 1) x x)", "((_ " + f + " 1) a)");
        }
        right(s, "(_ BitVec 4)", "((_ repeat 1) x)");
        right(s, "(_ BitVec 64)", "((_ repeat 16) x)");
        right(s, "(_ BitVec 64)", "((_ repeat 64) u)");
        wrong(s, "sort", "((_ repeat 0) x)", "((_ repeat 17) x)", "((_ repeat 65) u)", "((_ repeat 2) z)", "((_ repeat 1000) x)", "((_ repeat 1) x x)", "((_ repeat 2) a)");
        for (String f : new String[] {"rotate_left", "rotate_right"}) {
            for (String k : new String[] {"0", "1", "3", "4", "5", "1000"}) {
                right(s, "(_ BitVec 4)", "((_ " + f + " " + k + ") x)");
            }
            wrong(s, "sort", "((_ " + f + " 1001) x)", "((_ " + f + " 1) x x)", "((_ " + f + " 1) a)", "((_ " + f + " 1 1) x)");
        }
        s.value("((_ rotate_left 0) #b0011)", "#b0011").value("((_ rotate_left 1) #b1011)", "#b0111").value("((_ rotate_left 3) #b0011)", "#b1001");
        s.value("((_ rotate_left 4) #b0011)", "#b0011").value("((_ rotate_left 5) #b1011)", "#b0111").value("((_ rotate_left 1000) #b00101)", "#b00101");
        s.value("((_ rotate_right 1) #b1011)", "#b1101").value("((_ rotate_right 4) #b1011)", "#b1011").value("((_ rotate_right 999) #b00101)", "#b01010");
        s.value("((_ extract 2 1) #b0110)", "#b11").value("((_ sign_extend 2) #b10)", "#b1110").value("((_ zero_extend 2) #b10)", "#b0010").value("((_ repeat 3) #b10)", "#b101010");
    }

    private static void bits() {
        Script s = ready("bvnot, bvneg 1; bvand, bvor, bvxor, bvadd, bvmul 2 or more of the same width; the others 2");
        for (String f : new String[] {"bvnot", "bvneg"}) {
            arity(s, f, "x", "(_ BitVec 4)", 1, 1);
            wrong(s, "sort", "(" + f + " a)", "(" + f + " h)", "(" + f + " m)", "(" + f + " s)");
        }
        for (String f : new String[] {"bvand", "bvor", "bvxor", "bvadd", "bvmul"}) {
            arity(s, f, "x", "(_ BitVec 4)", 2, 5);
            wrong(s, "sort", "(" + f + " x u)", "(" + f + " x x u)", "(" + f + " a a)", "(" + f + " x a)", "(" + f + " h h)");
        }
        for (String f : new String[] {"bvnand", "bvnor", "bvxnor", "bvsub", "bvudiv", "bvurem", "bvsdiv", "bvsrem", "bvsmod", "bvshl", "bvlshr", "bvashr"}) {
            arity(s, f, "x", "(_ BitVec 4)", 2, 2);
            wrong(s, "sort", "(" + f + " x u)", "(" + f + " a a)", "(" + f + " h h)", "(" + f + " x a)");
        }
        arity(s, "bvcomp", "x", "(_ BitVec 1)", 2, 2);
        wrong(s, "sort", "(bvcomp x u)", "(bvcomp a a)");
        s.does("(reset)(declare-const x (_ BitVec 4))(declare-const u (_ BitVec 1))(declare-const a Bool)").prints("(check-sat)", "sat");
        for (String f : new String[] {"bvult", "bvule", "bvugt", "bvuge", "bvslt", "bvsle", "bvsgt", "bvsge"}) {
            arity(s, f, "x", "Bool", 2, 2);
            wrong(s, "sort", "(" + f + " x u)", "(" + f + " a a)", "(" + f + " x a)");
        }
    }

    private static void floatForms() {
        Script s = ready("(fp a b c), bit-vectors of 1, e, s - 1 bits. fp.abs, fp.neg 1; fp.add .. (RoundingMode and 2); fp.sqrt .. (RoundingMode and 1); the others");
        right(s, "(_ FloatingPoint 2 2)", "(fp #b0 #b00 #b0)");
        right(s, "(_ FloatingPoint 5 11)", "(fp #b0 #b00000 #b0000000000)");
        right(s, "(_ FloatingPoint 4 2)", "(fp u x u)");
        wrong(s, "sort", "(fp #b00 #b00 #b0)", "(fp #b0 #b0 #b0)", "(fp #b0 #b000000 #b0)", "(fp #b0 #b00 #b00000000000)", "(fp #b0 #b00)", "(fp #b0 #b00 #b0 #b0)",
                "(fp a #b00 #b0)", "(fp #b0 a #b0)", "(fp #b0 #b00 a)", "(fp u z u)", "(fp u u z)");
        for (String f : new String[] {"fp.abs", "fp.neg"}) {
            arity(s, f, "h", "(_ FloatingPoint 2 2)", 1, 1);
            wrong(s, "sort", "(" + f + " x)", "(" + f + " m h)", "(" + f + " a)");
        }
        for (String f : new String[] {"fp.add", "fp.sub", "fp.mul", "fp.div"}) {
            right(s, "(_ FloatingPoint 2 2)", "(" + f + " m h h)");
            wrong(s, "sort", "(" + f + " h h)", "(" + f + " m h)", "(" + f + " m h h h)", "(" + f + " m h k)", "(" + f + " h m h)", "(" + f + " h h h)", "(" + f + " m x x)");
        }
        for (String f : new String[] {"fp.sqrt", "fp.roundToIntegral"}) {
            right(s, "(_ FloatingPoint 2 2)", "(" + f + " m h)");
            wrong(s, "sort", "(" + f + " h)", "(" + f + " m h h)", "(" + f + " h m)", "(" + f + " h h)", "(" + f + " m x)", "(" + f + " m m)");
        }
        for (String f : new String[] {"fp.min", "fp.max"}) {
            arity(s, f, "h", "(_ FloatingPoint 2 2)", 2, 2);
            wrong(s, "sort", "(" + f + " h k)", "(" + f + " x x)", "(" + f + " m h h)");
        }
        for (String f : new String[] {"fp.leq", "fp.lt", "fp.geq", "fp.gt", "fp.eq"}) {
            arity(s, f, "h", "Bool", 2, 2);
            wrong(s, "sort", "(" + f + " h k)", "(" + f + " x x)");
        }
        for (String f : new String[] {"fp.isNormal", "fp.isSubnormal", "fp.isZero", "fp.isInfinite", "fp.isNaN", "fp.isNegative", "fp.isPositive"}) {
            arity(s, f, "h", "Bool", 1, 1);
            wrong(s, "sort", "(" + f + " x)", "(" + f + " m)");
        }
    }

    private static void conversions() {
        Script s = ready("(_ to_fp e s): of a bit-vector of e + s bits; of a RoundingMode and a bit-vector of at most 32 bits; (_ fp.to_ubv m), m 1 .. 32");
        s.does("(declare-const w (_ BitVec 32))(declare-const v (_ BitVec 33))").prints("(check-sat)", "sat");
        right(s, "(_ FloatingPoint 2 2)", "((_ to_fp 2 2) x)");
        wrong(s, "sort", "((_ to_fp 2 2) u)", "((_ to_fp 2 3) x)", "((_ to_fp 1 3) x)", "((_ to_fp 3 1) x)", "((_ to_fp 2 2) x x)", "((_ to_fp 2 2) h)", "((_ to_fp 2 2) a)",
                "((_ to_fp_unsigned 2 2) x)", "((_ to_fp 2 2) m a)", "((_ to_fp 2 2) h m)", "((_ to_fp 2 2) m m)", "((_ to_fp 2 2) m x x)", "((_ to_fp 2 2) m)");
        for (String f : new String[] {"to_fp", "to_fp_unsigned"}) {
            right(s, "(_ FloatingPoint 2 2)", "((_ " + f + " 2 2) m u)");
            right(s, "(_ FloatingPoint 2 2)", "((_ " + f + " 2 2) m w)");
            wrong(s, "sort", "((_ " + f + " 2 2) m v)", "((_ " + f + " 2 2) m z)", "((_ " + f + " 1 2) m x)", "((_ " + f + " 6 2) m x)", "((_ " + f + " 2 1) m x)",
                    "((_ " + f + " 2 12) m x)", "((_ " + f + " 2 2) x m)", "((_ " + f + " 2) m x)", "((_ " + f + " 0 0) m x)");
        }
        right(s, "(_ FloatingPoint 2 2)", "((_ to_fp 2 2) m k)");
        right(s, "(_ FloatingPoint 2 3)", "((_ to_fp 2 3) m h)");
        wrong(s, "sort", "((_ to_fp_unsigned 2 2) m k)", "((_ to_fp 2 2) k)");
        for (String f : new String[] {"fp.to_ubv", "fp.to_sbv"}) {
            right(s, "(_ BitVec 1)", "((_ " + f + " 1) m h)");
            right(s, "(_ BitVec 32)", "((_ " + f + " 32) m h)");
            wrong(s, "sort", "((_ " + f + " 0) m h)", "((_ " + f + " 33) m h)", "((_ " + f + " 1000) m h)", "((_ " + f + " 1) h)", "((_ " + f + " 1) m x)",
                    "((_ " + f + " 1) h m)", "((_ " + f + " 1) m h h)", "((_ " + f + " 1) m)");
        }
    }

    private static void definitions() {
        Script s = new Script("A definition stands for its TERM with the others in place of its parameters.");
        s.does("(declare-const x (_ BitVec 4))(define-fun f ((p (_ BitVec 4)) (q (_ BitVec 4))) (_ BitVec 4) (bvsub p q))");
        s.does("(define-fun g ((q (_ BitVec 4)) (p (_ BitVec 4))) (_ BitVec 4) (f p (f q p)))(define-fun c () (_ BitVec 4) (g x #x1))");
        s.does("(assert (= c #x0))(define-fun i ((p Bool) (x Bool)) Bool (let ((p x) (x p)) (and p (not x))))");
        s.prints("(check-sat)", "sat").value("x", "#b0010").value("(g #x5 #x3)", "#b0001").value("(f (f #x9 #x4) #x1)", "#b0100");
        s.value("(i false true)", "true").value("(i true false)", "false").value("(g c c)", "#b0000");
        s.refuses("(get-value ((c x)))", "name").refuses("(get-value (f))", "name").refuses("(get-value (p))", "name");
    }

    public static void main(String[] args) {
        bitVectors();
        floats();
        sorts();
        symbols();
        literals();
        numbers();
        specials();
        lets();
        heads();
        partsFirst();
        core();
        shapes();
        bits();
        floatForms();
        conversions();
        definitions();
        Script.end();
    }
}
