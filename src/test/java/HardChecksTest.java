/**
 * Checks that need a search, or a law that no search finds in time: sat or unsat is printed, whatever it takes, and
 * count tells of no clause that does not follow, no model that is wrong, and no check that was given up.
 */
public final class HardChecksTest {
    private static final String SENTENCE = "sat is printed if there is an INTERPRETATION .., else unsat. (7, 8, 9: each is 0 in a solver that is right.)";

    private static Script numbers(int width) {
        Script s = new Script(SENTENCE);
        for (String name : new String[] {"x", "y", "z"}) {
            s.does("(declare-const " + name + " (_ BitVec " + width + "))");
        }
        return s;
    }

    private static void never(Script s, String term) {
        s.prints("(check-sat-assuming (" + term + "))", "unsat").shows(6, 2).shows(7, 0).shows(8, 0).shows(9, 0);
    }

    private static void laws() {
        never(numbers(36), "(distinct (bvmul x (bvadd y z)) (bvadd (bvmul x y) (bvmul x z)))");
        never(numbers(32), "(distinct (bvmul x (bvmul y z)) (bvmul (bvmul z x) y))");
        never(numbers(32), "(distinct (bvmul (bvadd x y) (bvsub x y)) (bvsub (bvmul x x) (bvmul y y)))");
        never(numbers(36), "(distinct x (bvadd (bvmul y (bvudiv x y)) (bvurem x y)))");
        never(numbers(36), "(distinct x (bvadd (bvmul (bvsdiv x y) y) (bvsrem x y)))");
        never(numbers(32), "(= x y) (distinct (bvmul x z) (bvmul z y))");
        never(numbers(32), "(= x y) (= z (ite (bvult x z) z y)) (bvslt (bvmul (ite (bvult x z) z y) y) (bvmul x z))");
        never(numbers(40), "(= x y) (distinct (bvsmod x z) (bvsmod y z))");
        never(numbers(64), "(distinct (bvneg (bvsub x y)) (bvadd (bvnot x) y #x0000000000000001))");
        numbers(6).prints("(check-sat-assuming ((distinct (bvmul x (bvadd y z)) (bvadd (bvmul x y) (bvmul y z)))))(get-value (x y z))", "sat",
                "((x #b000000) (y #b000001) (z #b000001))");
        numbers(6).prints("(check-sat-assuming ((distinct x (bvadd (bvmul y (bvudiv x y)) (bvurem y x)))))(get-value (x y))", "sat", "((x #b000000) (y #b000001))");
        numbers(4).prints("(check-sat-assuming ((distinct (bvmul x x) (bvmul x y)) (= (bvmul x y) (bvmul y z))))(get-value (x y z))", "sat",
                "((x #b0001) (y #b0000) (z #b0000))");
    }

    private static String wide(String term, int more) {
        return "((_ zero_extend " + more + ") " + term + ")";
    }

    private static void orders() {
        String less = "(bvult (bvmul " + wide("x", 14) + " " + wide("z", 14) + ") (bvmul " + wide("y", 14) + " " + wide("z", 14) + "))";
        never(numbers(14), "(bvult x y) (distinct z (_ bv0 14)) (not " + less + ")");
        never(numbers(12), "(bvult x y) (not (bvult (bvmul " + wide("x", 12) + " " + wide("x", 12) + ") (bvmul " + wide("y", 12) + " " + wide("y", 12) + ")))");
        never(numbers(14), "(distinct y (_ bv0 14)) (bvult (bvmul " + wide("x", 14) + " " + wide("y", 14) + ") " + wide("x", 14) + ")");
        never(numbers(32), "(distinct y (_ bv0 32)) (not (bvult (bvurem x y) y))");
        never(numbers(32), "(distinct y (_ bv0 32)) (bvugt (bvudiv x y) x)");
        never(numbers(32), "(bvugt (bvmul y (bvudiv x y)) x)");
        never(numbers(24), "(bvule x y) (bvugt (bvudiv x z) (bvudiv y z))");
        never(numbers(24), "(bvule x y) (bvult (bvudiv z x) (bvudiv z y))");
        numbers(12).prints("(check-sat-assuming ((bvult x y) (bvult #x000 z) (not (bvult (bvmul x z) (bvmul y z)))))(get-value (x y z))", "sat",
                "((x #b000000000000) (y #b000000000010) (z #b100000000000))");
        numbers(12).prints("(check-sat-assuming ((not (bvult (bvurem x y) y)) (bvult #x004 x)))(get-value (x y))", "sat", "((x #b000000000101) (y #b000000000000))");
        numbers(12).prints("(check-sat-assuming ((bvugt (bvudiv x y) x)))(get-value (x y))", "sat", "((x #b000000000000) (y #b000000000000))");
        numbers(12).prints("(check-sat-assuming ((bvult (bvmul x y) x) (bvult #x001 x) (bvult #x000 y)))(get-value (x y))", "sat", "((x #b000000000010) (y #b100000000000))");
        numbers(12).prints("(check-sat-assuming ((bvult x y) (bvult (bvurem y z) (bvurem x z))))(get-value (x y z))", "sat",
                "((x #b000000000001) (y #b000000000010) (z #b000000000010))");
    }

    private static void factors() {
        String wide = "(bvmul ((_ zero_extend 16) x) ((_ zero_extend 16) y))";
        numbers(16).prints("(check-sat-assuming ((= " + wide + " (_ bv2005491953 32)) (bvult #x0001 x) (bvult #x0001 y)))(get-value (x y))", "sat",
                "((x #b1001110010011101) (y #b1100001101100101))");
        never(numbers(12), "(= (bvmul ((_ zero_extend 12) x) ((_ zero_extend 12) y)) (_ bv9999991 24)) (bvult #x001 x) (bvult #x001 y)");
        numbers(32).prints("(check-sat-assuming ((= (bvmul x x) #x12345679)))(get-value (x))", "sat", "((x #b00110000100100001110000100001011))");
    }

    private static void leastValues() {
        String ratio = "(bvuge (bvsdiv x (bvmul #xffffffff x)) x)";
        numbers(32).prints("(check-sat-assuming ((= " + ratio + " (bvsle x #x00000000))))(get-value (x))", "sat", "((x #b00000000000000000000000000000000))");
        numbers(20).prints("(check-sat-assuming ((bvsle #xfffff (bvsub (bvsub x #x80000) (bvmul #xfffff x)))))(get-value (x))", "sat", "((x #b01000000000000000000))");
        numbers(24).prints("(check-sat-assuming ((distinct (bvshl (bvsrem x x) y) (bvmul y (bvudiv y (bvmul #xffffff y))))))(get-value (x y))", "sat",
                "((x #b000000000000000000000000) (y #b100000000000000000000000))");
        numbers(32).prints("(check-sat-assuming ((= (bvmul y (bvmul y x)) (bvadd (bvsrem x y) (bvsub x y)))))(get-value (x y))", "sat",
                "((x #b00000000000000000000000000000000) (y #b00000000000000000000000000000000))");
    }

    private static void holes() {
        for (int n = 4; n <= 10; n++) {
            Script s = new Script(SENTENCE);
            Script t = new Script(SENTENCE);
            t.does("(declare-sort S 0)");
            StringBuilder all = new StringBuilder();
            for (int k = 0; k < n; k++) {
                s.does("(declare-const x" + k + " (_ BitVec 4))(assert (bvult x" + k + " (_ bv" + (n - 1) + " 4)))");
                t.does("(declare-const x" + k + " S)" + (k == 0 ? "" : "(declare-const y" + k + " S)"));
                all.append(" x").append(k);
            }
            for (int k = 0; k < n; k++) {
                StringBuilder one = new StringBuilder();
                for (int m = 1; m < n; m++) {
                    one.append(" (= x").append(k).append(" y").append(m).append(")");
                }
                t.does("(assert (or" + one + "))");
            }
            never(s, "(distinct" + all + ")");
            never(t, "(distinct" + all + ")");
            s.prints("(check-sat)", "sat");
            t.prints("(check-sat-assuming ((distinct" + all.substring(3) + ")))", "sat");
        }
    }

    private static void floats() {
        Script s = new Script(SENTENCE);
        for (String name : new String[] {"x", "y", "z"}) {
            s.does("(declare-const " + name + " (_ FloatingPoint 3 4))");
        }
        s.does("(declare-const r RoundingMode)");
        never(s, "(fp.leq x y) (not (fp.leq (fp.add r x z) (fp.add r y z))) (not (fp.isNaN (fp.add r x z))) (not (fp.isNaN (fp.add r y z)))");
        never(s, "(fp.leq x y) (fp.isPositive z) (fp.gt (fp.mul r x z) (fp.mul r y z))");
        never(s, "(distinct (fp.sub r x y) (fp.add r x (fp.neg y)))");
        never(s, "(fp.lt x y) (fp.gt (fp.roundToIntegral r x) (fp.roundToIntegral r y))");
        s.prints("(check-sat-assuming ((distinct (fp.add r (fp.add r x y) z) (fp.add r x (fp.add r y z)))))(get-value (x y z r))", "sat",
                "((x (fp #b0 #b000 #b001)) (y (fp #b0 #b000 #b001)) (z (fp #b0 #b010 #b000)) (r RNE))");
        s.shows(7, 0).shows(8, 0).shows(9, 0);
    }

    private static String power(int n) {
        return "(f ".repeat(n) + "s" + ")".repeat(n);
    }

    private static void functions() {
        Script s = new Script(SENTENCE);
        s.does("(declare-sort S 0)(declare-fun f (S) S)(declare-const s S)");
        s.does("(assert (= " + power(13) + " s))(assert (= " + power(18) + " s))");
        never(s, "(not (= (f s) s))");
        s.does("(reset)(declare-const x (_ BitVec 9))(declare-sort S 0)(declare-const s S)(declare-const t S)(assert (bvult x (bvadd x x)))");
        s.prints("(check-sat-assuming ((distinct s t)))(check-sat-assuming ((= s t)))", "sat", "sat");
        s.does("(reset)(declare-sort S 0)(declare-const s S)(declare-const t S)(declare-sort T 0)(declare-const u T)(declare-const v T)");
        s.prints("(check-sat-assuming ((distinct u v) (distinct s t)))(check-sat-assuming ((= s t)))", "sat", "sat");
        s.does("(reset)(declare-sort S 0)(declare-fun f (S) S)(declare-const s S)(assert (= " + power(12) + " s))(assert (= " + power(18) + " s))");
        never(s, "(not (= " + power(6) + " s))");
        s.prints("(check-sat-assuming ((not (= " + power(3) + " s)) (not (= " + power(2) + " s))))", "sat");
    }

    public static void main(String[] args) {
        laws();
        orders();
        factors();
        leastValues();
        holes();
        floats();
        functions();
        Script.end();
    }
}
