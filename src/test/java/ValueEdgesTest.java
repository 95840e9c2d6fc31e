/** What OPERATIONS give at the edges that the document names: shifts, divisions, rounding, zeros, the one NaN. */
public final class ValueEdgesTest {
    private static final String[] MODES = {"RNE", "RNA", "RTP", "RTN", "RTZ"};

    private static Script ready(String sentence) {
        return new Script(sentence).prints("(check-sat)", "sat");
    }

    private static void shifts() {
        Script s = ready("Shifts by the width or more: all 0, or all signs.");
        s.value("(bvshl #b10111 #b00000)", "#b10111").value("(bvshl #b10111 #b00001)", "#b01110").value("(bvshl #b10111 #b00100)", "#b10000");
        s.value("(bvshl #b10111 #b00101)", "#b00000").value("(bvshl #b10111 #b00110)", "#b00000").value("(bvshl #b10111 #b11111)", "#b00000");
        s.value("(bvshl #b10111 #b01000)", "#b00000").value("(bvlshr #b10111 #b01000)", "#b00000").value("(bvashr #b10111 #b10000)", "#b11111");
        s.value("(bvlshr #b10111 #b00000)", "#b10111").value("(bvlshr #b10111 #b00100)", "#b00001").value("(bvlshr #b10111 #b00101)", "#b00000");
        s.value("(bvlshr #b10111 #b11111)", "#b00000").value("(bvashr #b10111 #b00000)", "#b10111").value("(bvashr #b10111 #b00010)", "#b11101");
        s.value("(bvashr #b10111 #b00100)", "#b11111").value("(bvashr #b10111 #b00101)", "#b11111").value("(bvashr #b10111 #b11111)", "#b11111");
        s.value("(bvashr #b01111 #b00011)", "#b00001").value("(bvashr #b01111 #b00101)", "#b00000").value("(bvashr #b01111 #b11111)", "#b00000");
        s.value("(bvshl #b1 #b1)", "#b0").value("(bvlshr #b1 #b1)", "#b0").value("(bvashr #b1 #b1)", "#b1").value("(bvashr #b0 #b1)", "#b0").value("(bvshl #b1 #b0)", "#b1");
        s.value("(bvshl #x8f #x08)", "#b00000000").value("(bvlshr #x8f #x07)", "#b00000001").value("(bvlshr #x8f #x08)", "#b00000000").value("(bvashr #x8f #x80)", "#b11111111");
        Script wide = ready("Shifts by the width or more, of 64 bits");
        wide.value("(bvshl #x8000000000000001 #x000000000000003f)", "#b1" + "0".repeat(63)).value("(bvshl #x8000000000000001 #x0000000000000040)", "#b" + "0".repeat(64));
        wide.value("(bvlshr #x8000000000000001 #x000000000000003f)", "#b" + "0".repeat(63) + "1").value("(bvlshr #x8000000000000001 #x8000000000000000)", "#b" + "0".repeat(64));
        wide.value("(bvashr #x8000000000000001 #x0000000000000040)", "#b" + "1".repeat(64)).value("(bvashr #x8000000000000001 #x0000000100000000)", "#b" + "1".repeat(64));
        Script some = new Script("Shifts by the width or more, of what is not known");
        some.does("(declare-const x (_ BitVec 6))(declare-const n (_ BitVec 6))(assert (bvuge n #b000110))");
        some.prints("(check-sat-assuming ((distinct (bvshl x n) #b000000)))(check-sat-assuming ((distinct (bvlshr x n) #b000000)))", "unsat", "unsat");
        some.prints("(check-sat-assuming ((distinct (bvashr x n) (bvneg ((_ zero_extend 5) ((_ extract 5 5) x))))))", "unsat");
    }

    private static String bits(int width, int n) {
        String ones = Integer.toBinaryString(n & (1 << width) - 1);
        return "#b" + "0".repeat(width - ones.length()) + ones;
    }

    /** One part is known and the other one is not, or both are the same. */
    private static void products() {
        for (int w = 1; w <= 5; w++) {
            for (int x = 0; x < 1 << w; x++) {
                Script s = new Script("bvmul, bvudiv, bvurem, bvsdiv, bvsrem, bvsmod of " + x + ", of " + w + " bits");
                s.does("(declare-const x (_ BitVec " + w + "))(assert (= x " + bits(w, x) + "))(push 1)").prints("(check-sat)", "sat");
                for (int c = 0; c < 1 << w; c++) {
                    s.value("(bvmul x " + bits(w, c) + ")", bits(w, x * c)).value("(bvmul " + bits(w, c) + " x)", bits(w, x * c));
                }
                s.value("(bvmul x x)", bits(w, x * x)).value("(bvmul x x x)", bits(w, x * x * x));
                s.value("(bvudiv x x)", bits(w, x == 0 ? -1 : 1)).value("(bvsdiv x x)", bits(w, x == 0 ? -1 : 1));
                s.value("(bvurem x x)", bits(w, 0)).value("(bvsrem x x)", bits(w, 0)).value("(bvsmod x x)", bits(w, 0));
            }
        }
    }

    /** As above, but the search knows nothing of the number before it is assumed. */
    private static void assumedProducts() {
        int w = 4;
        for (int c = 0; c < 1 << w; c++) {
            Script s = new Script("bvmul, bvudiv, bvurem with " + c + ", of " + w + " bits");
            s.does("(declare-const x (_ BitVec " + w + "))(declare-const y (_ BitVec " + w + "))(declare-const z (_ BitVec " + w + "))");
            s.does("(assert (= y (bvmul x " + bits(w, c) + ")))(assert (= z (bvmul x x)))");
            for (int x = 0; x < 1 << w; x++) {
                s.prints("(check-sat-assuming ((= x " + bits(w, x) + ")))", "sat");
                s.prints("(get-value (y z (bvudiv x x) (bvurem x x)))",
                        "((y " + bits(w, x * c) + ") (z " + bits(w, x * x) + ") ((bvudiv x x) " + bits(w, x == 0 ? -1 : 1) + ") ((bvurem x x) " + bits(w, 0) + "))");
            }
        }
    }

    private static void divisions() {
        Script s = ready("A division by 0 without sign: all ones, the rest is what is divided");
        s.value("(bvudiv #b0101 #b0000)", "#b1111").value("(bvurem #b0101 #b0000)", "#b0101").value("(bvudiv #b0000 #b0000)", "#b1111").value("(bvurem #b0000 #b0000)", "#b0000");
        s.value("(bvudiv #b1111 #b0001)", "#b1111").value("(bvurem #b1111 #b0001)", "#b0000").value("(bvudiv #b0111 #b1000)", "#b0000").value("(bvurem #b0111 #b1000)", "#b0111");
        s.value("(bvudiv #b1 #b0)", "#b1").value("(bvudiv #b0 #b0)", "#b1").value("(bvurem #b1 #b0)", "#b1").value("(bvudiv #b0 #b1)", "#b0").value("(bvurem #b1 #b1)", "#b0");
        Script t = ready("with sign: by these of the numbers without sign, the quotient negative if the signs differ");
        t.value("(bvsdiv #b0101 #b0000)", "#b1111").value("(bvsdiv #b1011 #b0000)", "#b0001").value("(bvsdiv #b0000 #b0000)", "#b1111").value("(bvsdiv #b1000 #b0000)", "#b0001");
        t.value("(bvsdiv #b1000 #b1111)", "#b1000").value("(bvsdiv #b1000 #b0001)", "#b1000").value("(bvsdiv #b0111 #b1110)", "#b1101").value("(bvsdiv #b1001 #b0010)", "#b1101");
        t.value("(bvsdiv #b1001 #b1110)", "#b0011").value("(bvsdiv #b0111 #b1000)", "#b0000").value("(bvsdiv #b1000 #b1000)", "#b0001").value("(bvsdiv #b1 #b1)", "#b1").value("(bvsdiv #b1 #b0)", "#b1");
        Script u = ready("the rest of bvsrem with the sign of the first, that of bvsmod: 0, or of the sign of the second");
        u.value("(bvsrem #b0111 #b0010)", "#b0001").value("(bvsrem #b1001 #b0010)", "#b1111").value("(bvsrem #b0111 #b1110)", "#b0001").value("(bvsrem #b1001 #b1110)", "#b1111");
        u.value("(bvsmod #b0111 #b0010)", "#b0001").value("(bvsmod #b1001 #b0010)", "#b0001").value("(bvsmod #b0111 #b1110)", "#b1111").value("(bvsmod #b1001 #b1110)", "#b1111");
        u.value("(bvsrem #b1010 #b0011)", "#b0000").value("(bvsmod #b1010 #b0011)", "#b0000").value("(bvsmod #b0110 #b1101)", "#b0000").value("(bvsmod #b1011 #b0011)", "#b0001");
        u.value("(bvsrem #b0101 #b0000)", "#b0101").value("(bvsrem #b1011 #b0000)", "#b1011").value("(bvsmod #b0101 #b0000)", "#b0101").value("(bvsmod #b1011 #b0000)", "#b1011");
        u.value("(bvsrem #b1000 #b1111)", "#b0000").value("(bvsmod #b1000 #b1111)", "#b0000").value("(bvsrem #b1000 #b0000)", "#b1000").value("(bvsmod #b1000 #b0000)", "#b1000");
        u.value("(bvsmod #b0000 #b1011)", "#b0000").value("(bvsmod #b0001 #b1011)", "#b1100").value("(bvsmod #b0001 #b1000)", "#b1001").value("(bvsrem #b0111 #b1000)", "#b0111");
    }

    private static void wrapAround() {
        Script s = ready("bit-vectors: numbers wrap around at their width");
        s.value("(bvadd #b1111 #b0001)", "#b0000").value("(bvsub #b0000 #b0001)", "#b1111").value("(bvmul #b1000 #b0010)", "#b0000").value("(bvmul #b1111 #b1111)", "#b0001");
        s.value("(bvneg #b1000)", "#b1000").value("(bvneg #b0000)", "#b0000").value("(bvadd #b1 #b1 #b1)", "#b1").value("(bvadd #xffffffffffffffff #x0000000000000002)", "#b" + "0".repeat(63) + "1");
        s.value("(bvult #b1111 #b0000)", "false").value("(bvslt #b1111 #b0000)", "true").value("(bvslt #b1000 #b0111)", "true").value("(bvult #b1000 #b0111)", "false");
        s.value("(bvule #b1000 #b1000)", "true").value("(bvult #b1000 #b1000)", "false").value("(bvsge #b0111 #b1000)", "true").value("(bvsgt #b1000 #b1000)", "false").value("(bvsle #b1000 #b1000)", "true");
        s.value("(bvugt #b1000 #b0111)", "true").value("(bvuge #b0111 #b1000)", "false").value("(bvcomp #b1 #b1)", "#b1").value("(bvcomp #b1 #b0)", "#b0");
        s.value("(bvult #x7fffffffffffffff #x8000000000000000)", "true").value("(bvslt #x7fffffffffffffff #x8000000000000000)", "false");
        s.value("(bvnand #b0011 #b0101)", "#b1110").value("(bvnor #b0011 #b0101)", "#b1000").value("(bvxnor #b0011 #b0101)", "#b1001").value("(bvxor #b0011 #b0101 #b1111)", "#b1001");
    }

    /** The same OPERATION, M in it being each RoundingMode in turn. */
    private static void modes(Script s, String term, String... values) {
        for (int k = 0; k < 5; k++) {
            if (s.x.count(5) > 4000) {
                s.prints("(reset)(check-sat)", "sat");
            }
            s.value(term.replace("M", MODES[k]), values[k]);
        }
    }

    private static final String BIG = "(fp #b0 #b110 #b111)";
    private static final String MINUS_BIG = "(fp #b1 #b110 #b111)";
    private static final String OO = "(fp #b0 #b111 #b000)";
    private static final String MINUS_OO = "(fp #b1 #b111 #b000)";
    private static final String ZERO = "(fp #b0 #b000 #b000)";
    private static final String MINUS_ZERO = "(fp #b1 #b000 #b000)";
    private static final String LEAST = "(fp #b0 #b000 #b001)";
    private static final String MINUS_LEAST = "(fp #b1 #b000 #b001)";
    private static final String NAN = "(_ NaN 3 4)";
    private static final String ONE = "(fp #b0 #b011 #b000)";
    private static final String HALF = "(fp #b0 #b010 #b000)";

    private static void beyondTheGreatest() {
        Script s = ready("What is beyond the greatest after rounding as if there were no end is infinite, or the greatest, as IEEE 754 has it");
        // 15 is the greatest; a half of the last place is 0.5, so 15.5 is the first that is rounded to what would be 16.
        modes(s, "(fp.add M " + BIG + " (fp #b0 #b010 #b000))", OO, OO, OO, BIG, BIG);
        modes(s, "(fp.add M " + BIG + " (fp #b0 #b001 #b111))", BIG, BIG, OO, BIG, BIG);
        modes(s, "(fp.add M " + MINUS_BIG + " (fp #b1 #b010 #b000))", MINUS_OO, MINUS_OO, MINUS_BIG, MINUS_OO, MINUS_BIG);
        modes(s, "(fp.mul M " + BIG + " " + BIG + ")", OO, OO, OO, BIG, BIG);
        modes(s, "(fp.mul M " + BIG + " " + MINUS_BIG + ")", MINUS_OO, MINUS_OO, MINUS_BIG, MINUS_OO, MINUS_BIG);
        Script t = ready("What is beyond the greatest, of quotients and conversions");
        modes(t, "(fp.div M " + BIG + " " + LEAST + ")", OO, OO, OO, BIG, BIG);
        modes(t, "((_ to_fp 3 4) M #b01111)", BIG, BIG, BIG, BIG, BIG);
        modes(t, "((_ to_fp 3 4) M #b010000)", OO, OO, OO, BIG, BIG);
        modes(t, "((_ to_fp 3 4) M #b110000)", MINUS_OO, MINUS_OO, MINUS_BIG, MINUS_OO, MINUS_BIG);
        Script u = ready("What is beyond the greatest, of conversions of wide numbers");
        modes(u, "((_ to_fp_unsigned 2 3) M #xffffffff)", "(fp #b0 #b11 #b00)", "(fp #b0 #b11 #b00)", "(fp #b0 #b11 #b00)", "(fp #b0 #b10 #b11)", "(fp #b0 #b10 #b11)");
        modes(u, "((_ to_fp 2 3) M #x80000000)", "(fp #b1 #b11 #b00)", "(fp #b1 #b11 #b00)", "(fp #b1 #b10 #b11)", "(fp #b1 #b11 #b00)", "(fp #b1 #b10 #b11)");
        Script v = ready("What is beyond the greatest, of conversions of Float16");
        String last = "((_ to_fp 5 11) #x7bff)";
        v.value("((_ to_fp 3 4) RNE " + last + ")", OO).value("((_ to_fp 3 4) RTZ " + last + ")", BIG).value("((_ to_fp 3 4) RNE (_ -oo 5 11))", MINUS_OO);
        v.value("((_ to_fp 3 4) RTZ (_ NaN 5 11))", NAN);
    }

    private static void smallOnes() {
        Script s = ready("RNE: to the nearest, of two the even one; RNA: of two the one away from 0; RTP up, RTN down, RTZ towards 0");
        // LEAST / 2 lies in the middle of 0 and LEAST, 3 LEAST / 2 in the middle of LEAST and twice that.
        modes(s, "(fp.mul M " + LEAST + " " + HALF + ")", ZERO, LEAST, LEAST, ZERO, ZERO);
        modes(s, "(fp.mul M " + MINUS_LEAST + " " + HALF + ")", MINUS_ZERO, MINUS_LEAST, MINUS_ZERO, MINUS_LEAST, MINUS_ZERO);
        modes(s, "(fp.mul M (fp #b0 #b000 #b011) " + HALF + ")", "(fp #b0 #b000 #b010)", "(fp #b0 #b000 #b010)", "(fp #b0 #b000 #b010)", LEAST, LEAST);
        modes(s, "(fp.mul M " + LEAST + " " + LEAST + ")", ZERO, ZERO, LEAST, ZERO, ZERO);
        modes(s, "(fp.add M " + ONE + " " + LEAST + ")", ONE, ONE, "(fp #b0 #b011 #b001)", ONE, ONE);
        Script t = ready("a number between the greatest small one and the least normal one");
        modes(t, "((_ to_fp 3 4) M (fp #b0 #b01100 #b1110))", "(fp #b0 #b001 #b000)", "(fp #b0 #b001 #b000)", "(fp #b0 #b001 #b000)", "(fp #b0 #b000 #b111)", "(fp #b0 #b000 #b111)");
        t.value("((_ to_fp 3 4) RNE (fp #b0 #b01100 #b1101))", "(fp #b0 #b000 #b111)");
    }

    private static void zeros() {
        Script s = ready("the sign of a zero that a sum gives, too");
        modes(s, "(fp.add M " + ONE + " (fp.neg " + ONE + "))", ZERO, ZERO, ZERO, MINUS_ZERO, ZERO);
        modes(s, "(fp.sub M " + LEAST + " " + LEAST + ")", ZERO, ZERO, ZERO, MINUS_ZERO, ZERO);
        modes(s, "(fp.add M " + ZERO + " " + MINUS_ZERO + ")", ZERO, ZERO, ZERO, MINUS_ZERO, ZERO);
        modes(s, "(fp.add M " + MINUS_ZERO + " " + MINUS_ZERO + ")", MINUS_ZERO, MINUS_ZERO, MINUS_ZERO, MINUS_ZERO, MINUS_ZERO);
        Script t = ready("the sign of a zero that a difference gives");
        modes(t, "(fp.add M " + ZERO + " " + ZERO + ")", ZERO, ZERO, ZERO, ZERO, ZERO);
        modes(t, "(fp.sub M " + ZERO + " " + ZERO + ")", ZERO, ZERO, ZERO, MINUS_ZERO, ZERO);
        modes(t, "(fp.sub M " + MINUS_ZERO + " " + ZERO + ")", MINUS_ZERO, MINUS_ZERO, MINUS_ZERO, MINUS_ZERO, MINUS_ZERO);
        Script u = ready("the signs of other zeros, as IEEE 754");
        u.value("(fp.mul RTN " + ZERO + " " + ONE + ")", ZERO).value("(fp.mul RNE " + MINUS_ZERO + " " + ONE + ")", MINUS_ZERO).value("(fp.mul RNE " + MINUS_ZERO + " " + MINUS_ZERO + ")", ZERO);
        u.value("(fp.div RNE " + MINUS_ZERO + " " + ONE + ")", MINUS_ZERO).value("(fp.div RNE " + ONE + " " + MINUS_OO + ")", MINUS_ZERO).value("(fp.sqrt RTN " + MINUS_ZERO + ")", MINUS_ZERO);
        u.value("(fp.roundToIntegral RTP (fp #b1 #b010 #b000))", MINUS_ZERO).value("(fp.roundToIntegral RNE (fp #b1 #b010 #b000))", MINUS_ZERO).value("(fp.roundToIntegral RNE " + ZERO + ")", ZERO);
        u.value("(fp.roundToIntegral RTN " + MINUS_ZERO + ")", MINUS_ZERO).value("((_ to_fp 2 3) RNE " + MINUS_ZERO + ")", "(fp #b1 #b00 #b00)").value("((_ to_fp 3 4) RTN #b00)", ZERO);
    }

    private static void infinite() {
        Script s = ready("as IEEE 754: infinite numbers, and what is no number");
        s.value("(fp.add RNE " + OO + " " + MINUS_OO + ")", NAN).value("(fp.add RNE " + OO + " " + OO + ")", OO).value("(fp.sub RNE " + OO + " " + OO + ")", NAN).value("(fp.sub RTZ " + OO + " " + MINUS_OO + ")", OO);
        s.value("(fp.add RTZ " + OO + " " + BIG + ")", OO).value("(fp.mul RNE " + ZERO + " " + OO + ")", NAN).value("(fp.mul RNE " + MINUS_ZERO + " " + OO + ")", NAN);
        s.value("(fp.mul RTZ " + LEAST + " " + MINUS_OO + ")", MINUS_OO).value("(fp.div RNE " + ZERO + " " + ZERO + ")", NAN).value("(fp.div RNE " + OO + " " + MINUS_OO + ")", NAN);
        s.value("(fp.div RTZ " + ONE + " " + ZERO + ")", OO).value("(fp.div RTZ " + ONE + " " + MINUS_ZERO + ")", MINUS_OO).value("(fp.div RTN " + OO + " " + ONE + ")", OO).value("(fp.div RNE " + ZERO + " " + OO + ")", ZERO);
        Script t = ready("as IEEE 754: roots, and NaN through all");
        t.value("(fp.sqrt RNE " + OO + ")", OO).value("(fp.sqrt RNE " + MINUS_OO + ")", NAN).value("(fp.sqrt RNE (fp.neg " + LEAST + "))", NAN).value("(fp.sqrt RNE " + ONE + ")", ONE);
        t.value("(fp.roundToIntegral RNE " + OO + ")", OO).value("(fp.roundToIntegral RNE " + NAN + ")", NAN).value("(fp.sqrt RNE " + NAN + ")", NAN).value("(fp.add RTP " + NAN + " " + OO + ")", NAN);
        t.value("(fp.abs " + NAN + ")", NAN).value("(fp.neg " + NAN + ")", NAN).value("(fp.neg " + MINUS_OO + ")", OO).value("(fp.abs " + MINUS_ZERO + ")", ZERO).value("(fp.neg " + ZERO + ")", MINUS_ZERO);
        t.value("(fp.div RNE " + NAN + " " + ZERO + ")", NAN).value("(fp.mul RNE " + OO + " " + NAN + ")", NAN);
    }

    private static void integral() {
        Script s = ready("fp.roundToIntegral: halves, and numbers without a part behind the point");
        modes(s, "(fp.roundToIntegral M " + HALF + ")", ZERO, ONE, ONE, ZERO, ZERO);
        modes(s, "(fp.roundToIntegral M (fp #b0 #b011 #b100))", "(fp #b0 #b100 #b000)", "(fp #b0 #b100 #b000)", "(fp #b0 #b100 #b000)", ONE, ONE);
        modes(s, "(fp.roundToIntegral M (fp #b1 #b100 #b010))", "(fp #b1 #b100 #b000)", "(fp #b1 #b100 #b100)", "(fp #b1 #b100 #b000)", "(fp #b1 #b100 #b100)", "(fp #b1 #b100 #b000)");
        modes(s, "(fp.roundToIntegral M " + LEAST + ")", ZERO, ZERO, ONE, ZERO, ZERO);
        s.value("(fp.roundToIntegral RTP " + BIG + ")", BIG);
        Script t = ready("fp.roundToIntegral: where a whole number can be beyond the greatest");
        modes(t, "(fp.roundToIntegral M (fp #b0 #b01 #b1))", "(fp #b0 #b10 #b0)", "(fp #b0 #b10 #b0)", "(fp #b0 #b10 #b0)", "(fp #b0 #b01 #b0)", "(fp #b0 #b01 #b0)");
        // 3.75 is the greatest here, and 4 is beyond it.
        modes(t, "(fp.roundToIntegral M (fp #b0 #b10 #b111))", "(fp #b0 #b11 #b000)", "(fp #b0 #b11 #b000)", "(fp #b0 #b11 #b000)", "(fp #b0 #b10 #b100)", "(fp #b0 #b10 #b100)");
        modes(t, "(fp.roundToIntegral M (fp #b1 #b10 #b111))", "(fp #b1 #b11 #b000)", "(fp #b1 #b11 #b000)", "(fp #b1 #b10 #b100)", "(fp #b1 #b11 #b000)", "(fp #b1 #b10 #b100)");
        t.value("(fp.roundToIntegral RTP (fp #b0 #b10 #b1))", "(fp #b0 #b10 #b1)").value("(fp.roundToIntegral RTP (fp #b0 #b00 #b1))", "(fp #b0 #b01 #b0)").value("(fp.roundToIntegral RNE (fp #b0 #b00 #b1))", "(fp #b0 #b00 #b0)");
    }

    private static void minima() {
        Script s = ready("fp.min, fp.max 2 (zeros of two signs: the second; a NaN: the other one)");
        for (String f : new String[] {"fp.min", "fp.max"}) {
            s.value("(" + f + " " + ZERO + " " + MINUS_ZERO + ")", MINUS_ZERO).value("(" + f + " " + MINUS_ZERO + " " + ZERO + ")", ZERO).value("(" + f + " " + MINUS_ZERO + " " + MINUS_ZERO + ")", MINUS_ZERO);
            s.value("(" + f + " " + NAN + " " + ONE + ")", ONE).value("(" + f + " " + ONE + " " + NAN + ")", ONE).value("(" + f + " " + NAN + " " + NAN + ")", NAN).value("(" + f + " " + NAN + " " + OO + ")", OO);
        }
        s.value("(fp.min " + ONE + " " + HALF + ")", HALF).value("(fp.max " + ONE + " " + HALF + ")", ONE).value("(fp.min " + MINUS_OO + " " + MINUS_BIG + ")", MINUS_OO).value("(fp.max " + MINUS_LEAST + " " + MINUS_BIG + ")", MINUS_LEAST);
        s.value("(fp.min " + ZERO + " " + MINUS_LEAST + ")", MINUS_LEAST).value("(fp.max " + MINUS_ZERO + " " + LEAST + ")", LEAST).value("(fp.max " + OO + " " + BIG + ")", OO);
    }

    private static void tests() {
        Script s = ready("fp.leq, fp.lt, fp.geq, fp.gt, fp.eq: NaN, zeros of two signs. = and distinct: as bits are, with one NaN.");
        for (String f : new String[] {"fp.leq", "fp.lt", "fp.geq", "fp.gt", "fp.eq"}) {
            String same = f.equals("fp.lt") || f.equals("fp.gt") ? "false" : "true";
            s.value("(" + f + " " + NAN + " " + NAN + ")", "false").value("(" + f + " " + NAN + " " + ONE + ")", "false").value("(" + f + " " + OO + " " + NAN + ")", "false");
            s.value("(" + f + " " + ZERO + " " + MINUS_ZERO + ")", same).value("(" + f + " " + MINUS_ZERO + " " + ZERO + ")", same).value("(" + f + " " + OO + " " + OO + ")", same);
        }
        s.value("(fp.lt " + MINUS_OO + " " + MINUS_BIG + ")", "true").value("(fp.gt " + MINUS_LEAST + " " + MINUS_BIG + ")", "true").value("(fp.leq " + MINUS_LEAST + " " + ZERO + ")", "true").value("(fp.geq " + LEAST + " " + MINUS_ZERO + ")", "true");
        s.value("(= " + NAN + " " + NAN + ")", "true").value("(= " + ZERO + " " + MINUS_ZERO + ")", "false").value("(distinct " + ZERO + " " + MINUS_ZERO + ")", "true").value("(distinct " + NAN + " " + NAN + ")", "false");
        s.value("(= (fp #b1 #b111 #b001) (fp #b0 #b111 #b110))", "true").value("(= ((_ to_fp 3 4) #b1111111) " + NAN + ")", "true").value("(fp #b1 #b111 #b111)", NAN).value("((_ to_fp 3 4) #b0111001)", NAN);
        Script t = ready("fp.isNormal .. fp.isPositive 1 (the last two: not of NaN)");
        String[] numbers = {ZERO, MINUS_ZERO, LEAST, "(fp #b1 #b000 #b111)", "(fp #b0 #b001 #b000)", MINUS_BIG, OO, MINUS_OO, NAN};
        String[] kinds = {"fp.isZero", "fp.isZero", "fp.isSubnormal", "fp.isSubnormal", "fp.isNormal", "fp.isNormal", "fp.isInfinite", "fp.isInfinite", "fp.isNaN"};
        for (int k = 0; k < numbers.length; k++) {
            for (String f : new String[] {"fp.isNormal", "fp.isSubnormal", "fp.isZero", "fp.isInfinite", "fp.isNaN"}) {
                t.value("(" + f + " " + numbers[k] + ")", f.equals(kinds[k]) ? "true" : "false");
            }
            boolean isMinus = numbers[k].startsWith("(fp #b1");
            t.value("(fp.isNegative " + numbers[k] + ")", isMinus ? "true" : "false").value("(fp.isPositive " + numbers[k] + ")", isMinus || k == 8 ? "false" : "true");
        }
        Script only = new Script("there is one NaN");
        only.does("(declare-const x (_ FloatingPoint 3 4))(declare-const y (_ FloatingPoint 3 4))(declare-fun f (Bool) (_ FloatingPoint 3 4))");
        only.prints("(check-sat-assuming ((fp.isNaN x) (fp.isNaN y) (distinct x y)))", "unsat");
        only.prints("(check-sat-assuming ((fp.isNaN (f true)) (fp.isNaN (f false)) (distinct (f true) (f false))))(check-sat-assuming ((fp.isNaN x)))(get-value (x))", "unsat", "sat", "((x " + NAN + "))");
    }

    private static void wholeNumbers() {
        Script s = ready("(_ fp.to_ubv m), (_ fp.to_sbv m): rounded to a whole number; 0 if it is none of m bits without, or with sign");
        s.value("((_ fp.to_ubv 3) RNE (fp #b0 #b101 #b110))", "#b111").value("((_ fp.to_ubv 3) RNE (fp #b0 #b110 #b000))", "#b000").value("((_ fp.to_ubv 4) RNE (fp #b0 #b110 #b000))", "#b1000");
        modes(s, "((_ fp.to_ubv 3) M (fp #b0 #b101 #b111))", "#b000", "#b000", "#b000", "#b111", "#b111");
        modes(s, "((_ fp.to_ubv 3) M (fp #b1 #b010 #b000))", "#b000", "#b000", "#b000", "#b000", "#b000");
        s.value("((_ fp.to_ubv 3) RNE (fp #b1 #b011 #b000))", "#b000").value("((_ fp.to_ubv 1) RNE " + ONE + ")", "#b1").value("((_ fp.to_ubv 1) RNE (fp #b0 #b011 #b100))", "#b0");
        Script t = ready("(_ fp.to_sbv m): with sign");
        modes(t, "((_ fp.to_sbv 3) M (fp #b0 #b100 #b110))", "#b000", "#b000", "#b000", "#b011", "#b011");
        modes(t, "((_ fp.to_sbv 3) M (fp #b1 #b101 #b001))", "#b100", "#b000", "#b100", "#b000", "#b100");
        t.value("((_ fp.to_sbv 3) RNE (fp #b1 #b101 #b000))", "#b100").value("((_ fp.to_sbv 3) RNE (fp #b1 #b101 #b010))", "#b000").value("((_ fp.to_sbv 1) RNE (fp #b1 #b011 #b000))", "#b1");
        t.value("((_ fp.to_sbv 1) RNE " + ONE + ")", "#b0").value("((_ fp.to_sbv 4) RTN (fp #b1 #b010 #b000))", "#b1111");
        Script u = ready("(_ fp.to_ubv m), (_ fp.to_sbv m): of what is no number, and of 32 bits");
        for (String f : new String[] {"fp.to_ubv", "fp.to_sbv"}) {
            u.value("((_ " + f + " 3) RNE " + NAN + ")", "#b000").value("((_ " + f + " 3) RNE " + OO + ")", "#b000").value("((_ " + f + " 3) RNE " + MINUS_OO + ")", "#b000").value("((_ " + f + " 3) RTN " + MINUS_ZERO + ")", "#b000");
        }
        u.value("((_ fp.to_ubv 32) RNE " + BIG + ")", "#b" + "0".repeat(28) + "1111").value("((_ fp.to_sbv 32) RNE " + MINUS_BIG + ")", "#b" + "1".repeat(28) + "0001");
        Script v = ready("(_ fp.to_ubv m) of Float16: 65504 has 16 bits");
        v.value("((_ fp.to_ubv 16) RNE ((_ to_fp 5 11) #x7bff))", "#b1111111111100000").value("((_ fp.to_ubv 15) RNE ((_ to_fp 5 11) #x7bff))", "#b" + "0".repeat(15));
        v.value("((_ fp.to_sbv 16) RNE ((_ to_fp 5 11) #xf800))", "#b1000000000000000");
    }

    private static void fromBits() {
        Script s = ready("of a RoundingMode and a bit-vector: the number with sign, rounded; (_ to_fp_unsigned e s): of these: without sign");
        s.value("((_ to_fp 3 4) RNE #b1)", "(fp #b1 #b011 #b000)").value("((_ to_fp_unsigned 3 4) RNE #b1)", ONE).value("((_ to_fp 3 4) RNE #b0)", ZERO).value("((_ to_fp 3 4) RNE #b10)", "(fp #b1 #b100 #b000)");
        s.value("((_ to_fp_unsigned 3 4) RNE #b10)", "(fp #b0 #b100 #b000)").value("((_ to_fp 3 4) RTZ #b1000)", "(fp #b1 #b110 #b000)").value("((_ to_fp_unsigned 3 4) RTZ #b1000)", "(fp #b0 #b110 #b000)");
        modes(s, "((_ to_fp_unsigned 4 3) M #b1001)", "(fp #b0 #b1010 #b00)", "(fp #b0 #b1010 #b01)", "(fp #b0 #b1010 #b01)", "(fp #b0 #b1010 #b00)", "(fp #b0 #b1010 #b00)");
        modes(s, "((_ to_fp 4 3) M #b10101)", "(fp #b1 #b1010 #b10)", "(fp #b1 #b1010 #b10)", "(fp #b1 #b1010 #b01)", "(fp #b1 #b1010 #b10)", "(fp #b1 #b1010 #b01)");
        Script t = ready("of bit-vectors of 32 bits to Float16");
        t.value("((_ to_fp 5 11) RNE #x0000ffe0)", "(fp #b0 #b11110 #b1111111111)").value("((_ to_fp 5 11) RNE #x0000fff0)", "(fp #b0 #b11111 #b0000000000)").value("((_ to_fp 5 11) RNE #x0000ffef)", "(fp #b0 #b11110 #b1111111111)");
    }

    public static void main(String[] args) {
        shifts();
        products();
        assumedProducts();
        divisions();
        wrapAround();
        beyondTheGreatest();
        smallOnes();
        zeros();
        infinite();
        integral();
        minima();
        tests();
        wholeNumbers();
        fromBits();
        Script.end();
    }
}
