import java.io.IOException;
import java.nio.charset.StandardCharsets;
import java.nio.file.Files;
import java.nio.file.Path;
import java.util.ArrayList;
import java.util.List;
import java.util.Random;
import java.util.stream.Collectors;
import java.util.stream.Stream;

/**
 * Scripts that were spoilt byte by byte, fed in pieces and cut anywhere, with calls of all numbers
 * between: nothing but what the document names may be thrown, and count tells of no faults.
 */
public final class RoughTest {
    private static final String MARKS = "()|\"#:; 01ax_!-=\n\\";

    private static List<byte[]> scripts() throws IOException {
        List<Path> files;
        try (Stream<Path> all = Files.list(Path.of("src/test/scripts"))) {
            files = all.sorted().collect(Collectors.toList());
        }
        List<byte[]> found = new ArrayList<>();
        for (Path path : files) {
            for (String line : Files.readString(path, StandardCharsets.ISO_8859_1).split("\n")) {
                if (line.startsWith("(") && line.length() < 1500) {
                    found.add(line.getBytes(StandardCharsets.ISO_8859_1));
                }
            }
        }
        return found;
    }

    private static byte[] spoilt(byte[] script, Random random) {
        byte[] bytes = script.clone();
        int times = random.nextInt(3) == 0 ? 0 : random.nextInt(10);
        for (int k = 0; k < times && bytes.length > 0; k++) {
            int at = random.nextInt(bytes.length);
            switch (random.nextInt(4)) {
                case 0:
                    bytes[at] = (byte) random.nextInt(256);
                    break;
                case 1:
                    bytes[at] = (byte) MARKS.charAt(random.nextInt(MARKS.length()));
                    break;
                case 2:
                    bytes[at] = bytes[random.nextInt(bytes.length)];
                    break;
                default:
                    int stop = Math.min(bytes.length, at + 1 + random.nextInt(20));
                    byte[] longer = new byte[bytes.length + stop - at];
                    System.arraycopy(bytes, 0, longer, 0, stop);
                    System.arraycopy(bytes, at, longer, stop, bytes.length - at);
                    bytes = longer;
                    break;
            }
        }
        return bytes;
    }

    private static void strayCalls(ScriptSolver x, Random random) {
        int number = random.nextBoolean() ? random.nextInt() : random.nextInt(400) - 100;
        try {
            x.word(number);
        } catch (IndexOutOfBoundsException e) {
            due("word", number < 0 || number >= x.count(1), number);
        }
        try {
            x.count(number);
        } catch (IllegalArgumentException e) {
            due("count", number < 0 || number > 9, number);
        }
        if (random.nextInt(8) == 0) {
            int length = x.count(0);
            try {
                x.end(number);
            } catch (IllegalArgumentException e) {
                due("end", number < 0 || number > length, number);
            }
        }
    }

    private static void due(String what, boolean isRight, int number) {
        if (!isRight) {
            System.out.println(what + " of " + number + " is wrong");
            System.exit(1);
        }
    }

    private static void oneObject(List<byte[]> scripts, Random random) {
        ScriptSolver x = new ScriptSolver();
        int rounds = 1 + random.nextInt(5);
        for (int round = 0; round < rounds; round++) {
            byte[] bytes = spoilt(scripts.get(random.nextInt(scripts.size())), random);
            for (int at = 0; at < bytes.length; at += 20) {
                x.feed(Script.four(bytes, at), Script.four(bytes, at + 4), Script.four(bytes, at + 8), Script.four(bytes, at + 12), Script.four(bytes, at + 16));
                if (random.nextInt(20) == 0) {
                    x.run();
                }
            }
            x.run();
            strayCalls(x, random);
            for (int what = 7; what <= 9; what++) {
                due("count", x.count(what) == 0, what);
            }
        }
    }

    public static void main(String[] args) throws IOException {
        List<byte[]> scripts = scripts();
        Random random = new Random(20261115);
        for (int k = 0; k < 8000; k++) {
            try {
                oneObject(scripts, random);
            } catch (RuntimeException e) {
                System.out.println("object " + k + ": " + e);
                e.printStackTrace(System.out);
                System.exit(1);
            }
        }
        System.out.println("8000 objects of " + scripts.size() + " scripts, spoilt: nothing was thrown that is not named");
    }
}
