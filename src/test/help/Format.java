import java.util.HashMap;
import java.util.Map;

/**
 * Numbers of one floating point SORT: the bits of each, and its value as a double. Doubles hold all these numbers, their
 * sums and products exactly; quotients and roots have so many more bits that rounding once more does no harm.
 */
final class Format {
    static final String[] MODES = {"RNE", "RNA", "RTP", "RTN", "RTZ"};

    final int e;
    final int s;
    final int bias;
    final double greatest;
    private final Map<Double, String> prints = new HashMap<>();

    Format(int e, int s) {
        this.e = e;
        this.s = s;
        bias = (1 << e - 1) - 1;
        greatest = (2 - Math.pow(2, 1 - s)) * Math.pow(2, bias);
        for (int bits = 0; bits < 1 << e + s; bits++) {
            prints.put(value(bits), print(bits));
        }
    }

    /** How many numbers there are, each NaN counted. */
    int size() {
        return 1 << e + s;
    }

    double value(int bits) {
        int sign = bits >> e + s - 1 & 1;
        int exponent = bits >> s - 1 & (1 << e) - 1;
        int rest = bits & (1 << s - 1) - 1;
        double size;
        if (exponent == (1 << e) - 1) {
            size = rest == 0 ? Double.POSITIVE_INFINITY : Double.NaN;
        } else if (exponent == 0) {
            size = rest * Math.pow(2, 2 - bias - s);
        } else {
            size = (rest + (1 << s - 1)) * Math.pow(2, exponent - bias + 1 - s);
        }
        return sign == 1 ? -size : size;
    }

    String print(int bits) {
        if (Double.isNaN(value(bits))) {
            return "(_ NaN " + e + " " + s + ")";
        }
        return "(fp " + bits(bits >> e + s - 1, 1) + " " + bits(bits >> s - 1, e) + " " + bits(bits, s - 1) + ")";
    }

    /** The number with exactly this value, as it is printed. */
    String print(double value) {
        return prints.getOrDefault(value, "none is " + value);
    }

    double round(double value, String mode) {
        if (value == 0 || Double.isNaN(value) || Double.isInfinite(value)) {
            return value;
        }
        boolean isMinus = value < 0;
        double size = Math.abs(value);
        double unit = Math.pow(2, Math.max(Math.getExponent(size), 1 - bias) + 1 - s);
        double rounded = whole(size / unit, isMinus, mode) * unit;
        if (rounded > greatest) {
            boolean isInfinite = mode.equals("RNE") || mode.equals("RNA") || mode.equals(isMinus ? "RTN" : "RTP");
            rounded = isInfinite ? Double.POSITIVE_INFINITY : greatest;
        }
        return isMinus ? -rounded : rounded;
    }

    String sort() {
        return "(_ FloatingPoint " + e + " " + s + ")";
    }

    /** The head of a TERM that gives numbers of this SORT. */
    String to(String operation) {
        return "(_ " + operation + " " + e + " " + s + ")";
    }

    static String bits(long value, int width) {
        StringBuilder text = new StringBuilder("#b");
        for (int k = width - 1; k >= 0; k--) {
            text.append(value >> k & 1);
        }
        return text.toString();
    }

    static long signed(long x, int w) {
        return x << 64 - w >> 64 - w;
    }

    /** A size that is rounded to a whole number. */
    private static double whole(double size, boolean isMinus, String mode) {
        double below = Math.floor(size);
        double rest = size - below;
        boolean isMore;
        switch (mode) {
            case "RNE":
                isMore = rest > 0.5 || rest == 0.5 && below % 2 == 1;
                break;
            case "RNA":
                isMore = rest >= 0.5;
                break;
            case "RTP":
                isMore = rest > 0 && !isMinus;
                break;
            case "RTN":
                isMore = rest > 0 && isMinus;
                break;
            default:
                isMore = false;
                break;
        }
        return isMore ? below + 1 : below;
    }

    static double sum(double x, double y, String mode) {
        if (x + y != 0 || x == 0 && y == 0 && Double.compare(x, y) == 0) {
            return x + y;
        }
        return mode.equals("RTN") ? -0.0 : 0.0;
    }

    static double integral(double x, String mode) {
        return Double.isNaN(x) || Double.isInfinite(x) ? x : Math.copySign(whole(Math.abs(x), x < 0, mode), x);
    }

    static String wholeBits(double x, String mode, int m, boolean isSigned) {
        double y = integral(x, mode);
        double low = isSigned ? -Math.pow(2, m - 1) : 0;
        double high = isSigned ? Math.pow(2, m - 1) : Math.pow(2, m);
        return bits(y >= low && y < high ? (long) y : 0, m);
    }

    static double least(double x, double y, boolean isMax) {
        if (Double.isNaN(x) || Double.isNaN(y)) {
            return Double.isNaN(x) ? y : x;
        }
        return (isMax ? x > y : x < y) ? x : y;
    }
}
