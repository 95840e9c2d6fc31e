import java.util.ArrayList;
import java.util.List;

/**
 * All OPERATIONS on all numbers of small SORTS, whose values are assumed of constants, so that the search has to
 * find what they give. What is due is worked out here, by longs and by doubles, which hold these numbers exactly.
 */
public final class SmallNumbersTest {
    private static long ofTwo(String op, long x, long y, int w) {
        long a = Format.signed(x, w);
        long b = Format.signed(y, w);
        switch (op) {
            case "bvand":
                return x & y;
            case "bvor":
                return x | y;
            case "bvxor":
                return x ^ y;
            case "bvnand":
                return ~(x & y);
            case "bvnor":
                return ~(x | y);
            case "bvxnor":
                return ~(x ^ y);
            case "bvadd":
                return x + y;
            case "bvsub":
                return x - y;
            case "bvmul":
                return x * y;
            case "bvudiv":
                return y == 0 ? -1 : x / y;
            case "bvurem":
                return y == 0 ? x : x % y;
            case "bvsdiv":
                return b == 0 ? a < 0 ? 1 : -1 : a / b;
            case "bvsrem":
                return b == 0 ? a : a % b;
            case "bvsmod":
                return b == 0 ? a : a - b * Math.floorDiv(a, b);
            case "bvshl":
                return y >= w ? 0 : x << y;
            case "bvlshr":
                return y >= w ? 0 : x >> y;
            default:
                return y >= w ? a >> 63 : a >> y;
        }
    }

    private static boolean compared(String op, long x, long y, int w) {
        boolean isSigned = op.startsWith("bvs");
        long order = isSigned ? Long.compare(Format.signed(x, w), Format.signed(y, w)) : Long.compare(x, y);
        switch (op.substring(3)) {
            case "lt":
                return order < 0;
            case "le":
                return order <= 0;
            case "gt":
                return order > 0;
            default:
                return order >= 0;
        }
    }

    private static void bitVectors(int w) {
        Script s = new Script("Of bit-vectors, of " + w + " bits");
        s.does("(declare-const x (_ BitVec " + w + "))(declare-const y (_ BitVec " + w + "))");
        String[] two = {"bvand", "bvor", "bvxor", "bvnand", "bvnor", "bvxnor", "bvadd", "bvsub", "bvmul", "bvudiv", "bvurem", "bvsdiv",
            "bvsrem", "bvsmod", "bvshl", "bvlshr", "bvashr"};
        String[] order = {"bvult", "bvule", "bvugt", "bvuge", "bvslt", "bvsle", "bvsgt", "bvsge"};
        for (long x = 0; x < 1L << w; x++) {
            for (long y = 0; y < 1L << w; y++) {
                List<String> terms = new ArrayList<>();
                List<String> values = new ArrayList<>();
                for (String op : two) {
                    terms.add("(" + op + " x y)");
                    values.add(Format.bits(ofTwo(op, x, y, w), w));
                }
                for (String op : order) {
                    terms.add("(" + op + " x y)");
                    values.add(String.valueOf(compared(op, x, y, w)));
                }
                terms.addAll(List.of("(bvnot x)", "(bvneg x)", "(bvcomp x y)", "(= x y)", "(distinct x y)", "(concat x y)", "((_ rotate_left 1) x)", "((_ sign_extend 2) x)"));
                values.addAll(List.of(Format.bits(~x, w), Format.bits(-x, w), x == y ? "#b1" : "#b0", String.valueOf(x == y), String.valueOf(x != y),
                        Format.bits(x << w | y, 2 * w), Format.bits(x << 1 | x >> w - 1, w), Format.bits(Format.signed(x, w), w + 2)));
                s.asks("(= x " + Format.bits(x, w) + ") (= y " + Format.bits(y, w) + ")", terms, values);
            }
        }
    }

    private static void floatsOfTwo(Format f) {
        Script s = new Script("Of floating point, of two of " + f.sort());
        s.does("(declare-const x " + f.sort() + ")(declare-const y " + f.sort() + ")(declare-const m RoundingMode)");
        for (int a = 0; a < 1 << f.e + f.s; a++) {
            for (int b = 0; b < 1 << f.e + f.s; b++) {
                double x = f.value(a);
                double y = f.value(b);
                String[] plain = {"fp.leq", "fp.lt", "fp.geq", "fp.gt", "fp.eq", "=", "fp.min", "fp.max"};
                List<String> terms = new ArrayList<>();
                for (String op : plain) {
                    terms.add("(" + op + " x y)");
                }
                List<String> values = new ArrayList<>(List.of("" + (x <= y), "" + (x < y), "" + (x >= y), "" + (x > y), "" + (x == y),
                        "" + (Double.compare(x, y) == 0), f.print(Format.least(x, y, false)), f.print(Format.least(x, y, true))));
                String mode = Format.MODES[(a * 7 + b) % 5];
                for (String op : new String[] {"fp.add", "fp.sub", "fp.mul", "fp.div"}) {
                    terms.add("(" + op + " m x y)");
                }
                values.add(f.print(f.round(Format.sum(x, y, mode), mode)));
                values.add(f.print(f.round(Format.sum(x, -y, mode), mode)));
                values.add(f.print(f.round(x * y, mode)));
                values.add(f.print(f.round(x / y, mode)));
                s.asks("(= m " + mode + ") (= x " + f.print(a) + ") (= y " + f.print(b) + ")", terms, values);
            }
        }
    }

    private static void floatsOfOne(Format f, Format g) {
        Script s = new Script("Of floating point, of one of " + f.sort() + " and to " + g.sort());
        s.does("(declare-const x " + f.sort() + ")(declare-const m RoundingMode)");
        for (int a = 0; a < 1 << f.e + f.s; a++) {
            for (String mode : Format.MODES) {
                double x = f.value(a);
                boolean isNumber = !Double.isNaN(x) && !Double.isInfinite(x);
                boolean isSmall = isNumber && Math.abs(x) < Math.pow(2, 1 - f.bias);
                boolean isMinus = Double.doubleToRawLongBits(x) < 0;
                List<String> terms = new ArrayList<>(List.of("(fp.abs x)", "(fp.neg x)", "(fp.isNormal x)", "(fp.isSubnormal x)", "(fp.isZero x)", "(fp.isInfinite x)",
                        "(fp.isNaN x)", "(fp.isNegative x)", "(fp.isPositive x)", "(fp.sqrt m x)", "(fp.roundToIntegral m x)", "((_ to_fp " + g.e + " " + g.s + ") m x)"));
                List<String> values = new ArrayList<>(List.of(f.print(Math.abs(x)), f.print(-x), "" + (isNumber && !isSmall), "" + (isSmall && x != 0), "" + (x == 0),
                        "" + Double.isInfinite(x), "" + Double.isNaN(x), "" + (!Double.isNaN(x) && isMinus), "" + (!Double.isNaN(x) && !isMinus),
                        f.print(f.round(Math.sqrt(x), mode)), f.print(f.round(Format.integral(x, mode), mode)), g.print(g.round(x, mode))));
                for (int m = 1; m <= 4; m++) {
                    terms.add("((_ fp.to_ubv " + m + ") m x)");
                    values.add(Format.wholeBits(x, mode, m, false));
                    terms.add("((_ fp.to_sbv " + m + ") m x)");
                    values.add(Format.wholeBits(x, mode, m, true));
                }
                s.asks("(= m " + mode + ") (= x " + f.print(a) + ")", terms, values);
                if (s.x.count(5) > 3500) {
                    s.does("(reset)(declare-const x " + f.sort() + ")(declare-const m RoundingMode)");
                }
            }
        }
    }

    private static void floatsOfBits(Format f, int w) {
        Script s = new Script("Of floating point, of " + w + " bits to " + f.sort());
        s.does("(declare-const x (_ BitVec " + w + "))(declare-const m RoundingMode)");
        for (int x = 0; x < 1 << w; x++) {
            for (String mode : Format.MODES) {
                List<String> terms = new ArrayList<>(List.of("((_ to_fp " + f.e + " " + f.s + ") m x)", "((_ to_fp_unsigned " + f.e + " " + f.s + ") m x)"));
                List<String> values = new ArrayList<>(List.of(f.print(f.round(Format.signed(x, w), mode)), f.print(f.round(x, mode))));
                if (w == f.e + f.s) {
                    terms.add("((_ to_fp " + f.e + " " + f.s + ") x)");
                    values.add(f.print(x));
                }
                s.asks("(= m " + mode + ") (= x " + Format.bits(x, w) + ")", terms, values);
            }
        }
    }

    public static void main(String[] args) {
        for (int w = 1; w <= 4; w++) {
            bitVectors(w);
        }
        floatsOfTwo(new Format(2, 2));
        floatsOfTwo(new Format(2, 3));
        floatsOfTwo(new Format(3, 2));
        floatsOfTwo(new Format(3, 3));
        floatsOfOne(new Format(2, 3), new Format(2, 2));
        floatsOfOne(new Format(3, 3), new Format(2, 4));
        floatsOfOne(new Format(3, 2), new Format(3, 5));
        floatsOfOne(new Format(2, 4), new Format(4, 2));
        floatsOfOne(new Format(4, 2), new Format(2, 2));
        floatsOfBits(new Format(2, 2), 4);
        floatsOfBits(new Format(2, 3), 5);
        floatsOfBits(new Format(3, 2), 6);
        floatsOfBits(new Format(4, 3), 7);
        floatsOfBits(new Format(2, 2), 1);
        Script.end();
    }
}
