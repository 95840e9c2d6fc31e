import java.util.ArrayList;
import java.util.List;

/**
 * All OPERATIONS on all numbers of small SORTS, whose values are assumed of constants, so that the search has to
 * find what they give. What is due is worked out here, by longs and by doubles, which hold these numbers exactly.
 */
public final class SmallNumbersTest {
    private static final String[] MODES = {"RNE", "RNA", "RTP", "RTN", "RTZ"};

    private static String bits(long value, int width) {
        StringBuilder text = new StringBuilder("#b");
        for (int k = width - 1; k >= 0; k--) {
            text.append(value >> k & 1);
        }
        return text.toString();
    }

    /** Asks for all TERMS at once, under what is assumed. */
    private static void ask(Script s, String assumed, List<String> terms, List<String> values) {
        StringBuilder want = new StringBuilder("(");
        for (int k = 0; k < terms.size(); k++) {
            want.append(k == 0 ? "(" : " (").append(terms.get(k)).append(' ').append(values.get(k)).append(')');
        }
        s.prints("(check-sat-assuming (" + assumed + "))(get-value (" + String.join(" ", terms) + "))", "sat", want.append(')').toString());
    }

    private static long signed(long x, int w) {
        return x << 64 - w >> 64 - w;
    }

    private static long ofTwo(String op, long x, long y, int w) {
        long a = signed(x, w);
        long b = signed(y, w);
        switch (op) {
            case "bvand":
                return x & y;
            case "bvor":
                return x | y;
            case "bvxor":
                return x ^ y;
            case "bvnand":
                return ~(x & y);
            case "bvnor":
                return ~(x | y);
            case "bvxnor":
                return ~(x ^ y);
            case "bvadd":
                return x + y;
            case "bvsub":
                return x - y;
            case "bvmul":
                return x * y;
            case "bvudiv":
                return y == 0 ? -1 : x / y;
            case "bvurem":
                return y == 0 ? x : x % y;
            case "bvsdiv":
                return b == 0 ? a < 0 ? 1 : -1 : a / b;
            case "bvsrem":
                return b == 0 ? a : a % b;
            case "bvsmod":
                return b == 0 ? a : a - b * Math.floorDiv(a, b);
            case "bvshl":
                return y >= w ? 0 : x << y;
            case "bvlshr":
                return y >= w ? 0 : x >> y;
            default:
                return y >= w ? a >> 63 : a >> y;
        }
    }

    private static boolean compared(String op, long x, long y, int w) {
        boolean isSigned = op.startsWith("bvs");
        long order = isSigned ? Long.compare(signed(x, w), signed(y, w)) : Long.compare(x, y);
        switch (op.substring(3)) {
            case "lt":
                return order < 0;
            case "le":
                return order <= 0;
            case "gt":
                return order > 0;
            default:
                return order >= 0;
        }
    }

    private static void bitVectors(int w) {
        Script s = new Script("Of bit-vectors, of " + w + " bits");
        s.does("(declare-const x (_ BitVec " + w + "))(declare-const y (_ BitVec " + w + "))");
        String[] two = {"bvand", "bvor", "bvxor", "bvnand", "bvnor", "bvxnor", "bvadd", "bvsub", "bvmul", "bvudiv", "bvurem", "bvsdiv",
            "bvsrem", "bvsmod", "bvshl", "bvlshr", "bvashr"};
        String[] order = {"bvult", "bvule", "bvugt", "bvuge", "bvslt", "bvsle", "bvsgt", "bvsge"};
        for (long x = 0; x < 1L << w; x++) {
            for (long y = 0; y < 1L << w; y++) {
                List<String> terms = new ArrayList<>();
                List<String> values = new ArrayList<>();
                for (String op : two) {
                    terms.add("(" + op + " x y)");
                    values.add(bits(ofTwo(op, x, y, w), w));
                }
                for (String op : order) {
                    terms.add("(" + op + " x y)");
                    values.add(String.valueOf(compared(op, x, y, w)));
                }
                terms.addAll(List.of("(bvnot x)", "(bvneg x)", "(bvcomp x y)", "(= x y)", "(distinct x y)", "(concat x y)", "((_ rotate_left 1) x)", "((_ sign_extend 2) x)"));
                values.addAll(List.of(bits(~x, w), bits(-x, w), x == y ? "#b1" : "#b0", String.valueOf(x == y), String.valueOf(x != y),
                        bits(x << w | y, 2 * w), bits(x << 1 | x >> w - 1, w), bits(signed(x, w), w + 2)));
                ask(s, "(= x " + bits(x, w) + ") (= y " + bits(y, w) + ")", terms, values);
            }
        }
    }

    /** Numbers of one floating point SORT: the bits of each, and its value. */
    private static final class Format {
        final int e;
        final int s;
        final int bias;
        final double greatest;

        Format(int e, int s) {
            this.e = e;
            this.s = s;
            bias = (1 << e - 1) - 1;
            greatest = (2 - Math.pow(2, 1 - s)) * Math.pow(2, bias);
        }

        double value(int bits) {
            int sign = bits >> e + s - 1 & 1;
            int exponent = bits >> s - 1 & (1 << e) - 1;
            int rest = bits & (1 << s - 1) - 1;
            double size;
            if (exponent == (1 << e) - 1) {
                size = rest == 0 ? Double.POSITIVE_INFINITY : Double.NaN;
            } else if (exponent == 0) {
                size = rest * Math.pow(2, 2 - bias - s);
            } else {
                size = (rest + (1 << s - 1)) * Math.pow(2, exponent - bias + 1 - s);
            }
            return sign == 1 ? -size : size;
        }

        String print(int bits) {
            if (Double.isNaN(value(bits))) {
                return "(_ NaN " + e + " " + s + ")";
            }
            return "(fp " + bits(bits >> e + s - 1, 1) + " " + bits(bits >> s - 1, e) + " " + bits(bits, s - 1) + ")";
        }

        /** The number with exactly this value, as it is printed. */
        String print(double value) {
            for (int bits = 0; bits < 1 << e + s; bits++) {
                if (Double.compare(value(bits), value) == 0) {
                    return print(bits);
                }
            }
            return "none is " + value;
        }

        double round(double value, String mode) {
            if (value == 0 || Double.isNaN(value) || Double.isInfinite(value)) {
                return value;
            }
            boolean isMinus = value < 0;
            double size = Math.abs(value);
            double unit = Math.pow(2, Math.max(Math.getExponent(size), 1 - bias) + 1 - s);
            double rounded = whole(size / unit, isMinus, mode) * unit;
            if (rounded > greatest) {
                boolean isInfinite = mode.equals("RNE") || mode.equals("RNA") || mode.equals(isMinus ? "RTN" : "RTP");
                rounded = isInfinite ? Double.POSITIVE_INFINITY : greatest;
            }
            return isMinus ? -rounded : rounded;
        }

        String sort() {
            return "(_ FloatingPoint " + e + " " + s + ")";
        }
    }

    /** A size that is rounded to a whole number. */
    private static double whole(double size, boolean isMinus, String mode) {
        double below = Math.floor(size);
        double rest = size - below;
        boolean isMore;
        switch (mode) {
            case "RNE":
                isMore = rest > 0.5 || rest == 0.5 && below % 2 == 1;
                break;
            case "RNA":
                isMore = rest >= 0.5;
                break;
            case "RTP":
                isMore = rest > 0 && !isMinus;
                break;
            case "RTN":
                isMore = rest > 0 && isMinus;
                break;
            default:
                isMore = false;
                break;
        }
        return isMore ? below + 1 : below;
    }

    private static double sum(double x, double y, String mode) {
        if (x + y != 0 || x == 0 && y == 0 && Double.compare(x, y) == 0) {
            return x + y;
        }
        return mode.equals("RTN") ? -0.0 : 0.0;
    }

    private static double integral(double x, String mode) {
        return Double.isNaN(x) || Double.isInfinite(x) ? x : Math.copySign(whole(Math.abs(x), x < 0, mode), x);
    }

    private static String wholeBits(double x, String mode, int m, boolean isSigned) {
        double y = integral(x, mode);
        double low = isSigned ? -Math.pow(2, m - 1) : 0;
        double high = isSigned ? Math.pow(2, m - 1) : Math.pow(2, m);
        return bits(y >= low && y < high ? (long) y : 0, m);
    }

    private static double least(double x, double y, boolean isMax) {
        if (Double.isNaN(x) || Double.isNaN(y)) {
            return Double.isNaN(x) ? y : x;
        }
        return (isMax ? x > y : x < y) ? x : y;
    }

    private static void floatsOfTwo(Format f) {
        Script s = new Script("Of floating point, of two of " + f.sort());
        s.does("(declare-const x " + f.sort() + ")(declare-const y " + f.sort() + ")(declare-const m RoundingMode)");
        for (int a = 0; a < 1 << f.e + f.s; a++) {
            for (int b = 0; b < 1 << f.e + f.s; b++) {
                double x = f.value(a);
                double y = f.value(b);
                String[] plain = {"fp.leq", "fp.lt", "fp.geq", "fp.gt", "fp.eq", "=", "fp.min", "fp.max"};
                List<String> terms = new ArrayList<>();
                for (String op : plain) {
                    terms.add("(" + op + " x y)");
                }
                List<String> values = new ArrayList<>(List.of("" + (x <= y), "" + (x < y), "" + (x >= y), "" + (x > y), "" + (x == y),
                        "" + (Double.compare(x, y) == 0), f.print(least(x, y, false)), f.print(least(x, y, true))));
                String mode = MODES[(a * 7 + b) % 5];
                for (String op : new String[] {"fp.add", "fp.sub", "fp.mul", "fp.div"}) {
                    terms.add("(" + op + " m x y)");
                }
                values.add(f.print(f.round(sum(x, y, mode), mode)));
                values.add(f.print(f.round(sum(x, -y, mode), mode)));
                values.add(f.print(f.round(x * y, mode)));
                values.add(f.print(f.round(x / y, mode)));
                ask(s, "(= m " + mode + ") (= x " + f.print(a) + ") (= y " + f.print(b) + ")", terms, values);
            }
        }
    }

    private static void floatsOfOne(Format f, Format g) {
        Script s = new Script("Of floating point, of one of " + f.sort() + " and to " + g.sort());
        s.does("(declare-const x " + f.sort() + ")(declare-const m RoundingMode)");
        for (int a = 0; a < 1 << f.e + f.s; a++) {
            for (String mode : MODES) {
                double x = f.value(a);
                boolean isNumber = !Double.isNaN(x) && !Double.isInfinite(x);
                boolean isSmall = isNumber && Math.abs(x) < Math.pow(2, 1 - f.bias);
                boolean isMinus = Double.doubleToRawLongBits(x) < 0;
                List<String> terms = new ArrayList<>(List.of("(fp.abs x)", "(fp.neg x)", "(fp.isNormal x)", "(fp.isSubnormal x)", "(fp.isZero x)", "(fp.isInfinite x)",
                        "(fp.isNaN x)", "(fp.isNegative x)", "(fp.isPositive x)", "(fp.sqrt m x)", "(fp.roundToIntegral m x)", "((_ to_fp " + g.e + " " + g.s + ") m x)"));
                List<String> values = new ArrayList<>(List.of(f.print(Math.abs(x)), f.print(-x), "" + (isNumber && !isSmall), "" + (isSmall && x != 0), "" + (x == 0),
                        "" + Double.isInfinite(x), "" + Double.isNaN(x), "" + (!Double.isNaN(x) && isMinus), "" + (!Double.isNaN(x) && !isMinus),
                        f.print(f.round(Math.sqrt(x), mode)), f.print(f.round(integral(x, mode), mode)), g.print(g.round(x, mode))));
                for (int m = 1; m <= 4; m++) {
                    terms.add("((_ fp.to_ubv " + m + ") m x)");
                    values.add(wholeBits(x, mode, m, false));
                    terms.add("((_ fp.to_sbv " + m + ") m x)");
                    values.add(wholeBits(x, mode, m, true));
                }
                ask(s, "(= m " + mode + ") (= x " + f.print(a) + ")", terms, values);
                if (s.x.count(5) > 3500) {
                    s.does("(reset)(declare-const x " + f.sort() + ")(declare-const m RoundingMode)");
                }
            }
        }
    }

    private static void floatsOfBits(Format f, int w) {
        Script s = new Script("Of floating point, of " + w + " bits to " + f.sort());
        s.does("(declare-const x (_ BitVec " + w + "))(declare-const m RoundingMode)");
        for (int x = 0; x < 1 << w; x++) {
            for (String mode : MODES) {
                List<String> terms = new ArrayList<>(List.of("((_ to_fp " + f.e + " " + f.s + ") m x)", "((_ to_fp_unsigned " + f.e + " " + f.s + ") m x)"));
                List<String> values = new ArrayList<>(List.of(f.print(f.round(signed(x, w), mode)), f.print(f.round(x, mode))));
                if (w == f.e + f.s) {
                    terms.add("((_ to_fp " + f.e + " " + f.s + ") x)");
                    values.add(f.print(x));
                }
                ask(s, "(= m " + mode + ") (= x " + bits(x, w) + ")", terms, values);
            }
        }
    }

    public static void main(String[] args) {
        for (int w = 1; w <= 4; w++) {
            bitVectors(w);
        }
        floatsOfTwo(new Format(2, 2));
        floatsOfTwo(new Format(2, 3));
        floatsOfTwo(new Format(3, 2));
        floatsOfTwo(new Format(3, 3));
        floatsOfOne(new Format(2, 3), new Format(2, 2));
        floatsOfOne(new Format(3, 3), new Format(2, 4));
        floatsOfOne(new Format(3, 2), new Format(3, 5));
        floatsOfOne(new Format(2, 4), new Format(4, 2));
        floatsOfOne(new Format(4, 2), new Format(2, 2));
        floatsOfBits(new Format(2, 2), 4);
        floatsOfBits(new Format(2, 3), 5);
        floatsOfBits(new Format(3, 2), 6);
        floatsOfBits(new Format(4, 3), 7);
        floatsOfBits(new Format(2, 2), 1);
        Script.end();
    }
}
