/** The WEIGHT of each kind of TERM, and 4400, 1000 NAMES and 100 TERMS of OPEN SORTS: the last that is allowed and the first that is not. */
public final class WeightEdgesTest {
    private static final String[] DECLARED = {"a Bool", "m RoundingMode", "s S", "x (_ BitVec 5)", "y (_ BitVec 5)", "w (_ BitVec 64)",
        "h (_ FloatingPoint 2 3)", "k (_ FloatingPoint 3 4)", "p Float16"};
    private static final int[] OWN = {1, 3, 7, 5, 5, 64, 5, 7, 16};

    private static Script ready(String sentence) {
        Script s = new Script(sentence);
        s.does("(declare-sort S 0)");
        int weight = 0;
        for (int k = 0; k < DECLARED.length; k++) {
            s.does("(declare-const " + DECLARED[k] + ")").shows(5, weight);
        }
        for (int k = 0; k < DECLARED.length; k++) {
            String name = DECLARED[k].substring(0, 1);
            s.does("(define-fun read-" + name + " () " + DECLARED[k].substring(2) + " " + name + ")");
            weight += 1 + OWN[k];
            s.shows(5, weight);
        }
        return s;
    }

    /** The TERM, all of whose parts have been read, weighs this much. */
    private static void weighs(Script s, int more, String sort, String term) {
        int before = s.x.count(5);
        s.does("(push 1)(define-fun new () " + sort + " " + term + ")").shows(5, before + more);
        s.does("(define-fun newer () " + sort + " " + term + ")").shows(5, before + more);
        s.does("(pop 1)").shows(5, before + more);
    }

    private static void eachKind() {
        Script s = ready("for all others the bits of its parts (of the result if it has none: Bool 1, RoundingMode 3, OPEN 7)");
        weighs(s, 2, "Bool", "true");
        weighs(s, 4, "RoundingMode", "RTZ");
        weighs(s, 6, "(_ BitVec 5)", "#b00101");
        weighs(s, 0, "(_ BitVec 5)", "(_ bv37 5)");
        weighs(s, 7, "(_ BitVec 6)", "(_ bv37 6)");
        weighs(s, 6, "(_ FloatingPoint 2 3)", "(_ NaN 2 3)");
        weighs(s, 6, "(_ FloatingPoint 2 3)", "(_ +zero 2 3)");
        weighs(s, 6, "(_ FloatingPoint 3 2)", "(_ +zero 3 2)");
        weighs(s, 2, "Bool", "(not a)");
        weighs(s, 5, "Bool", "(and a a a a)");
        weighs(s, 4, "Bool", "(=> a a a)");
        weighs(s, 16, "Bool", "(= x y x)");
        weighs(s, 15, "Bool", "(= s s)");
        weighs(s, 12, "(_ BitVec 5)", "(ite a x y)");
        weighs(s, 16, "(_ BitVec 15)", "(concat x y x)");
        weighs(s, 6, "(_ BitVec 1)", "((_ extract 1 1) x)");
        weighs(s, 6, "(_ BitVec 1)", "((_ extract 2 2) x)");
        weighs(s, 6, "(_ BitVec 64)", "((_ zero_extend 59) x)");
        weighs(s, 6, "(_ BitVec 60)", "((_ repeat 12) x)");
        weighs(s, 6, "(_ BitVec 5)", "((_ rotate_left 1) x)");
        weighs(s, 6, "(_ BitVec 5)", "((_ rotate_left 6) x)");
        weighs(s, 6, "(_ BitVec 5)", "(bvneg x)");
        weighs(s, 16, "(_ BitVec 5)", "(bvadd x y y)");
        weighs(s, 11, "(_ BitVec 5)", "(bvsub x y)");
        weighs(s, 11, "(_ BitVec 1)", "(bvcomp x y)");
        weighs(s, 11, "Bool", "(bvslt x y)");
        weighs(s, 12, "(_ FloatingPoint 5 6)", "(fp ((_ extract 1 1) x) x x)");
        weighs(s, 6, "(_ FloatingPoint 2 3)", "(fp.neg h)");
        weighs(s, 11, "(_ FloatingPoint 2 3)", "(fp.min h h)");
        weighs(s, 11, "Bool", "(fp.eq h h)");
        weighs(s, 6, "Bool", "(fp.isNaN h)");
        weighs(s, 6, "(_ FloatingPoint 2 3)", "((_ to_fp 2 3) x)");
        weighs(s, 6, "(_ FloatingPoint 3 2)", "((_ to_fp 3 2) x)");
    }

    private static void heavy() {
        Script s = ready("for bvmul, bvudiv .. bvsmod: w w for each but the first; bvshl, bvlshr, bvashr: 8 w");
        weighs(s, 26, "(_ BitVec 5)", "(bvmul x y)");
        weighs(s, 26, "(_ BitVec 5)", "(bvmul y x)");
        weighs(s, 76, "(_ BitVec 5)", "(bvmul x y x y)");
        for (String f : new String[] {"bvudiv", "bvurem", "bvsdiv", "bvsrem", "bvsmod"}) {
            weighs(s, 26, "(_ BitVec 5)", "(" + f + " x y)");
        }
        for (String f : new String[] {"bvshl", "bvlshr", "bvashr"}) {
            weighs(s, 41, "(_ BitVec 5)", "(" + f + " x y)");
            weighs(s, 513, "(_ BitVec 64)", "(" + f + " w w)");
        }
        Script t = ready("fp.add .. and conversions but that of bits: 4 (e + s)^2, of the greater one if there are two, and 8 w for a bit-vector");
        for (String f : new String[] {"fp.add", "fp.sub", "fp.mul", "fp.div"}) {
            weighs(t, 101, "(_ FloatingPoint 2 3)", "(" + f + " m h h)");
        }
        weighs(t, 101, "(_ FloatingPoint 2 3)", "(fp.sqrt m h)");
        weighs(t, 101, "(_ FloatingPoint 2 3)", "(fp.roundToIntegral m h)");
        weighs(t, 197, "(_ FloatingPoint 2 3)", "((_ to_fp 2 3) m k)");
        weighs(t, 197, "(_ FloatingPoint 3 4)", "((_ to_fp 3 4) m h)");
        weighs(t, 101, "(_ FloatingPoint 3 2)", "((_ to_fp 3 2) m h)");
        weighs(t, 141, "(_ FloatingPoint 2 3)", "((_ to_fp 2 3) m x)");
        weighs(t, 141, "(_ FloatingPoint 2 3)", "((_ to_fp_unsigned 2 3) m x)");
        weighs(t, 109, "(_ BitVec 1)", "((_ fp.to_ubv 1) m h)");
        weighs(t, 357, "(_ BitVec 32)", "((_ fp.to_sbv 32) m h)");
        weighs(t, 1025, "Float16", "(fp.add m p p)");
        weighs(t, 1025, "(_ FloatingPoint 2 3)", "((_ to_fp 2 3) m p)");
        Script u = ready("distinct: the bits of one of its parts for each two of them");
        weighs(u, 6, "Bool", "(distinct x y)");
        weighs(u, 16, "Bool", "(distinct x y x)");
        weighs(u, 51, "Bool", "(distinct x y x y x)");
        weighs(u, 8, "Bool", "(distinct s s)");
        weighs(u, 7, "Bool", "(distinct a a a a)");
        weighs(u, 10, "Bool", "(distinct m m m)");
    }

    private static void functions() {
        Script s = ready("a function that was declared: the bits of its parts and its own, once, and once more for each TERM of it that there is already");
        s.does("(declare-fun f (S Bool) (_ BitVec 5))(declare-fun g (S Bool) (_ BitVec 5))");
        weighs(s, 14, "(_ BitVec 5)", "(f s a)");
        weighs(s, 2, "Bool", "(not a)");
        weighs(s, 27, "(_ BitVec 5)", "(f s (not a))");
        weighs(s, 14, "(_ BitVec 5)", "(g s a)");
        weighs(s, 2, "Bool", "true");
        weighs(s, 40, "(_ BitVec 5)", "(f s true)");
        weighs(s, 27, "(_ BitVec 5)", "(g s true)");
        s.refuses("(assert (f s false))", "sort");
        weighs(s, 2, "Bool", "false");
        weighs(s, 53, "(_ BitVec 5)", "(f s false)");
    }

    private static void definitions() {
        Script s = ready("with definitions put in place, and in definitions with all their parameters");
        int before = s.x.count(5);
        s.does("(define-fun f ((p (_ BitVec 5)) (q Bool)) (_ BitVec 5) (bvadd p x))").shows(5, before + 6 + 2 + 11);
        s.does("(define-fun g () (_ BitVec 5) (f y a))").shows(5, before + 19 + 11);
        s.does("(define-fun i () (_ BitVec 5) (f y true))").shows(5, before + 30 + 2);
        s.does("(define-fun j () (_ BitVec 5) (bvadd y x))(define-fun l () (_ BitVec 5) g)").shows(5, before + 32);
        s.does("(define-fun n ((p (_ BitVec 5))) (_ BitVec 5) p)").shows(5, before + 38);
        s.does("(define-fun o () (_ BitVec 5) (n x))").shows(5, before + 38);
        s.does("(define-fun q ((p (_ BitVec 5))) (_ BitVec 5) (f (n p) a))").shows(5, before + 38 + 6 + 11);
        s.does("(define-fun r () Bool (let ((t (bvneg x))) a))").shows(5, before + 55 + 6);
        s.does("(assert (! (let ((t (bvneg x))) (= t x)) :named u))").shows(5, before + 61 + 11);
    }

    private static void whatCounts() {
        Script s = new Script("All different TERMS that were read since the first, or the latest reset, by COMMANDS that were done (and by the present one, so far)");
        s.does("(declare-const x (_ BitVec 10))").shows(5, 0);
        s.refuses("(assert (bvnot x))", "sort").refuses("(assert (= (bvnot x) nope))", "name").refuses("(get-value ((bvnot x)))", "model").shows(5, 0);
        s.refuses("(check-sat-assuming ((= x x) x))", "sort").refuses("(define-fun f ((p Bool)) Bool x)", "sort").refuses("(define-fun x () Bool true)", "name").shows(5, 0);
        s.does("(assert (= x x))").shows(5, 32).does("(assert (= x x))").shows(5, 32);
        s.prints("(check-sat-assuming (true (= x x)))", "sat").shows(5, 34).prints("(get-value (x false))", "((x #b0000000000) (false false))").shows(5, 36);
        s.does("(push 1)(assert (not true))").shows(5, 38).does("(pop 1)").shows(5, 38).does("(assert (not true))").shows(5, 38);
        s.does("(reset)").shows(5, 0).does("(assert true)").shows(5, 2);
    }

    private static void limit() {
        Script s = new Script("may weigh 4400 together .. else ERROR full, at once, with the TERM that passes it");
        // w 65, its square 4097, the equation 129; #b1 2, the extract 65, the equation 3; then v 37.
        s.does("(declare-const w (_ BitVec 64))(define-fun b () Bool (= w (bvmul w w)))(define-fun c () Bool (= #b1 ((_ extract 0 0) w)))").shows(5, 4361);
        s.does("(declare-const v (_ BitVec 36))(define-fun d () (_ BitVec 36) v)").shows(5, 4398);
        s.refuses("(define-fun e () Bool (not true))", "full").refuses("(define-fun e () (_ BitVec 2) #b00)", "full").refuses("(assert (and b c))", "full").shows(5, 4398);
        s.refuses("(define-fun e ((p (_ BitVec 2))) Bool b)", "full").prints("(check-sat-assuming (b c))", "sat").refuses("(check-sat-assuming ((= b c)))", "full").shows(6, 1);
        s.refuses("(get-value (v (bvnot v)))", "full").refuses("(get-value ((bvnot v) nope))", "full").refuses("(get-value (nope (bvnot v)))", "name");
        s.refuses("(assert (= (bvnot v) 1))", "full").refuses("(assert (= 1 (bvnot v)))", "sort").refuses("(assert (not (bvnot v)))", "full").shows(5, 4398);
        s.does("(define-fun e ((p Bool)) Bool p)").shows(5, 4400);
        s.refuses("(assert true)", "full").refuses("(define-fun f ((p Bool)) Bool b)", "full").refuses("(define-fun e ((p Bool)) Bool b)", "full").shows(5, 4400);
        s.does("(assert (e b))(assert (e (e c)))(declare-const u Bool)(push 1)").shows(5, 4400).shows(4, 2).prints("(check-sat)", "sat").refuses("(get-value (u))", "full");
        s.does("(define-fun f () Bool (= w (bvmul w w)))").shows(5, 4400).does("(reset)(assert true)").shows(5, 2);
        Script t = new Script("4400 in one TERM");
        t.does("(declare-const w (_ BitVec 64))(define-fun a () (_ BitVec 64) w)").shows(5, 65);
        t.refuses("(define-fun c () Bool (distinct" + " w".repeat(13) + "))", "full").does("(define-fun c () Bool (distinct" + " w".repeat(12) + "))").shows(5, 65 + 1 + 66 * 64);
        Script u = new Script("4400, many parts");
        u.does("(declare-const a Bool)(assert (and" + " a".repeat(4397) + "))").shows(5, 4400);
        Script v = new Script("4401, many parts");
        v.does("(declare-const a Bool)").refuses("(assert (and" + " a".repeat(4398) + "))", "full").shows(5, 0).does("(assert a)").shows(5, 2);
    }

    private static void names() {
        Script s = new Script("there may be 1000 NAMES: else ERROR full (of a NAME behind all else)");
        for (int k = 0; k < 999; k++) {
            s.feed("(declare-const a" + k + " Bool)").x.run();
        }
        s.shows(3, 999).does("(declare-sort S 0)").shows(3, 1000);
        s.refuses("(declare-const b Bool)", "full").refuses("(declare-sort T 0)", "full").refuses("(declare-fun f (Bool) Bool)", "full").refuses("(define-fun d () Bool a1)", "full");
        s.refuses("(assert (! a1 :named n))", "full").refuses("(declare-const a1 Bool)", "name").refuses("(declare-const b Nope)", "sort").refuses("(define-fun d () Bool #b1)", "sort");
        s.refuses("(define-fun d ((p Bool) (p Bool)) Bool #b1)", "name").refuses("(assert (! a1 :named a2))", "name").refuses("(assert (! #b1 :named n))", "sort").refuses("(define-fun d () Bool nope)", "name");
        s.does("(push 1)(assert a1)").shows(4, 1).prints("(check-sat)", "sat").refuses("(declare-const b Bool)", "full").shows(6, 1).value("a1", "true");
        s.does("(reset)(declare-const b Bool)").shows(3, 1);
        Script t = new Script("1000 NAMES: those of LEVELS that are gone are gone");
        for (int k = 0; k < 999; k++) {
            t.feed("(declare-const a" + k + " Bool)").x.run();
        }
        t.does("(push 1)(declare-const b Bool)").shows(3, 1000).refuses("(declare-const c Bool)", "full").does("(pop 1)(declare-const c Bool)").shows(3, 1000);
    }

    private static void openTerms() {
        Script s = new Script("100 TERMS of OPEN SORTS that are functions (or constants) of theirs");
        s.does("(declare-sort S 0)(declare-sort T 0)(declare-fun t (T) T)(declare-const u T)(declare-const a Bool)(declare-const b Bool)");
        for (int k = 0; k < 97; k++) {
            s.feed("(declare-const s" + k + " S)(assert (= s" + k + " s0))").x.run();
        }
        s.shows(4, 97).does("(assert (= u (t u)))").shows(4, 98);
        int weight = s.x.count(5);
        s.refuses("(assert (= (t u) (t (t (t u)))))", "full").shows(5, weight);
        s.does("(define-fun d ((p S) (q T)) S (ite a p s0))").does("(assert (= (d s1 u) (ite b s3 s4)))").shows(4, 99);
        s.does("(assert (= u (t (t u))))").shows(4, 100);
        s.refuses("(assert (= u (t (t (t u)))))", "full");
        s.does("(declare-const v S)").refuses("(assert (= v v))", "full").refuses("(check-sat-assuming ((= v s0)))", "full").does("(assert (= s0 s96 (d s5 (t u))))");
        s.does("(declare-fun f (S) Bool)(assert (f s1))(assert (not (f s2)))").prints("(check-sat)", "unsat").does("(reset)(declare-sort S 0)(declare-const v S)(assert (= v v))");
        Script again = new Script("100 TERMS of OPEN SORTS: since the latest reset");
        again.does("(declare-sort S 0)(declare-const s S)(assert (= s s))(reset)(declare-sort S 0)");
        for (int k = 0; k < 100; k++) {
            again.feed("(declare-const s" + k + " S)(assert (= s" + k + " s0))").x.run();
        }
        again.shows(4, 100).does("(declare-const s S)").refuses("(assert (= s0 s))", "full").prints("(check-sat)", "sat");
        Script t = new Script("100 TERMS of OPEN SORTS may all be different");
        StringBuilder all = new StringBuilder();
        t.does("(declare-sort S 0)(declare-fun f (S) S)(declare-const s S)");
        String term = "s";
        for (int k = 1; k < 17; k++) {
            term = "(f " + term + ")";
            all.append(" ").append(term);
        }
        t.prints("(assert (distinct s" + all + "))(check-sat)", "sat").shows(9, 0);
    }

    public static void main(String[] args) {
        eachKind();
        heavy();
        functions();
        definitions();
        whatCounts();
        limit();
        names();
        openTerms();
        Script.end();
    }
}
