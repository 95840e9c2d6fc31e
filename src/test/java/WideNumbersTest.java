import java.math.BigInteger;
import java.util.ArrayList;
import java.util.List;

/**
 * OPERATIONS on numbers of wide SORTS, up to 64 bits and to Float16: some of all, in a fixed order that looks like none,
 * with those at the ends of their ranges and those that lie close together. What is due is worked out here.
 */
public final class WideNumbersTest {
    private static long seed = 1;

    /** The next number of that order, below the limit. */
    private static int next(int limit) {
        seed = seed * 6364136223846793005L + 1442695040888963407L;
        return (int) ((seed >>> 33) % limit);
    }

    private static int pick(Format f) {
        int sign = next(2) << f.e + f.s - 1;
        int ones = (1 << f.e) - 1 << f.s - 1;
        int[] ends = {0, 1, (1 << f.s - 1) - 1, 1 << f.s - 1, f.bias << f.s - 1, ones - 1, ones, ones | 1 << f.s - 2};
        return next(5) == 0 ? ends[next(ends.length)] | sign : next(f.size());
    }

    /** One that is close to another, or its opposite. */
    private static int near(Format f, int bits) {
        int other = bits + next(5) - 2 & f.size() - 1;
        return next(2) == 0 ? other : other ^ f.size() / 2;
    }

    private static void sums(Format f, int times) {
        Script s = new Script("fp.add, fp.sub, fp.mul, fp.div of two of " + f.sort());
        for (int k = 0; k < times; k++) {
            s.does("(reset)(declare-const x " + f.sort() + ")(declare-const y " + f.sort() + ")(declare-const m RoundingMode)");
            int a = pick(f);
            int b = k % 3 == 0 ? near(f, a) : pick(f);
            double x = f.value(a);
            double y = f.value(b);
            String mode = Format.MODES[next(5)];
            List<String> terms = new ArrayList<>(List.of("(fp.add m x y)", "(fp.sub m x y)"));
            List<String> values = new ArrayList<>(List.of(f.print(f.round(Format.sum(x, y, mode), mode)), f.print(f.round(Format.sum(x, -y, mode), mode))));
            if (k % 2 == 0) {
                terms.set(0, "(fp.mul m x y)");
                values.set(0, f.print(f.round(x * y, mode)));
                terms.set(1, "(fp.div m x y)");
                values.set(1, f.print(f.round(x / y, mode)));
            }
            s.asks("(= m " + mode + ") (= x " + f.print(a) + ") (= y " + f.print(b) + ")", terms, values);
        }
    }

    private static void roots(Format f, int times) {
        Script s = new Script("fp.sqrt, fp.roundToIntegral of one of " + f.sort());
        for (int k = 0; k < times; k++) {
            s.does("(reset)(declare-const x " + f.sort() + ")(declare-const m RoundingMode)");
            int a = pick(f);
            double x = f.value(a);
            String mode = Format.MODES[next(5)];
            s.asks("(= m " + mode + ") (= x " + f.print(a) + ")", List.of("(fp.sqrt m x)", "(fp.roundToIntegral m x)"),
                    List.of(f.print(f.round(Math.sqrt(x), mode)), f.print(f.round(Format.integral(x, mode), mode))));
        }
    }

    private static void conversions(Format f, Format g, int times) {
        for (int k = 0; k < times; k++) {
            int a = pick(f);
            int w = 1 + next(32);
            int m = 1 + next(32);
            long n = (next(1 << 16) * 65536L + next(1 << 16) >> 32 - w) >> (next(2) == 0 ? 0 : next(w));
            double x = f.value(a);
            String mode = Format.MODES[next(5)];
            Script s = new Script("conversions of " + f.sort() + ", of " + w + " bits, to " + g.sort() + ", to " + m + " bits");
            s.does("(declare-const x " + f.sort() + ")(declare-const m RoundingMode)(declare-const n (_ BitVec " + w + "))");
            String assumed = "(= m " + mode + ") (= x " + f.print(a) + ") (= n " + Format.bits(n, w) + ")";
            s.asks(assumed, List.of("(" + g.to("to_fp") + " m x)", "(" + g.to("to_fp") + " m n)"),
                    List.of(g.print(g.round(x, mode)), g.print(g.round(Format.signed(n, w), mode))));
            s.does("(reset)(declare-const x " + f.sort() + ")(declare-const m RoundingMode)(declare-const n (_ BitVec " + w + "))");
            s.asks(assumed, List.of("(" + g.to("to_fp_unsigned") + " m n)", "((_ fp.to_ubv " + m + ") m x)", "((_ fp.to_sbv " + m + ") m x)"),
                    List.of(g.print(g.round(n, mode)), Format.wholeBits(x, mode, m, false), Format.wholeBits(x, mode, m, true)));
        }
    }

    private static BigInteger signed(BigInteger x, int w) {
        return x.testBit(w - 1) ? x.subtract(BigInteger.ONE.shiftLeft(w)) : x;
    }

    /** What a division gives; one by 0 goes by the numbers without sign. */
    private static BigInteger divided(String op, BigInteger x, BigInteger y, int w) {
        boolean isSigned = op.startsWith("bvs");
        BigInteger a = isSigned ? signed(x, w) : x;
        BigInteger b = isSigned ? signed(y, w) : y;
        if (b.signum() == 0) {
            return op.endsWith("div") ? BigInteger.valueOf(a.signum() < 0 ? 1 : -1) : a;
        }
        BigInteger rest = a.remainder(b);
        if (op.endsWith("div")) {
            return a.divide(b);
        }
        return op.equals("bvsmod") && rest.signum() != 0 && rest.signum() != b.signum() ? rest.add(b) : rest;
    }

    private static BigInteger shifted(String op, BigInteger x, BigInteger y, int w) {
        int by = y.min(BigInteger.valueOf(w)).intValue();
        if (op.equals("bvshl")) {
            return x.shiftLeft(by);
        }
        return (op.equals("bvashr") ? signed(x, w) : x).shiftRight(by);
    }

    private static BigInteger pick(int w) {
        BigInteger all = BigInteger.ONE.shiftLeft(w);
        BigInteger[] ends = {BigInteger.ZERO, BigInteger.ONE, all.subtract(BigInteger.ONE), all.shiftRight(1), all.shiftRight(1).subtract(BigInteger.ONE),
            BigInteger.valueOf(w - 1).mod(all), BigInteger.valueOf(w).mod(all), BigInteger.valueOf(w + 1).mod(all)};
        if (next(3) == 0) {
            return ends[next(ends.length)];
        }
        return BigInteger.valueOf(next(1 << 30)).shiftLeft(34).add(BigInteger.valueOf(next(1 << 30)).shiftLeft(8)).shiftRight(64 - w).shiftRight(next(w));
    }

    private static String print(BigInteger x, int w) {
        return Format.bits(x.longValue(), w);
    }

    /** Products and divisions of numbers as they are written, shifts of numbers that are assumed. */
    private static void bitVectors(int w, int times) {
        for (int k = 0; k < times; k++) {
            BigInteger x = pick(w);
            BigInteger y = pick(w);
            Script s = new Script("Of bit-vectors, of " + w + " bits");
            String parts = " " + print(x, w) + " " + print(y, w) + ")";
            s.asks("", List.of("(bvmul" + parts), List.of(print(x.multiply(y), w)));
            for (String op : new String[] {"bvudiv", "bvurem", "bvsdiv", "bvsrem", "bvsmod"}) {
                s.does("(reset)").asks("", List.of("(" + op + parts), List.of(print(divided(op, x, y, w), w)));
            }
            s.does("(reset)(declare-const x (_ BitVec " + w + "))(declare-const y (_ BitVec " + w + "))");
            List<String> terms = new ArrayList<>();
            List<String> values = new ArrayList<>();
            for (String op : new String[] {"bvshl", "bvlshr", "bvashr"}) {
                terms.add("(" + op + " x y)");
                values.add(print(shifted(op, x, y, w), w));
            }
            terms.addAll(List.of("(bvadd x y)", "(bvsub x y)", "(bvult x y)", "(bvslt x y)"));
            values.addAll(List.of(print(x.add(y), w), print(x.subtract(y), w), "" + (x.compareTo(y) < 0), "" + (signed(x, w).compareTo(signed(y, w)) < 0)));
            s.asks("(= x " + print(x, w) + ") (= y " + print(y, w) + ")", terms, values);
        }
    }

    public static void main(String[] args) {
        int[][] formats = {{5, 11}, {4, 11}, {2, 11}, {3, 8}, {5, 2}, {4, 6}, {2, 7}};
        for (int k = 0; k < formats.length; k++) {
            int[] other = formats[(k + 3) % formats.length];
            Format f = new Format(formats[k][0], formats[k][1]);
            Format g = new Format(other[0], other[1]);
            sums(f, k == 0 ? 120 : 40);
            roots(f, k == 0 ? 120 : 40);
            conversions(f, g, 40);
            conversions(g, f, 40);
        }
        for (int w : new int[] {5, 7, 8, 13, 16, 31, 32, 33, 48, 63, 64}) {
            bitVectors(w, 12);
        }
        Script.end();
    }
}
