import java.io.IOException;
import java.nio.charset.StandardCharsets;
import java.nio.file.Files;
import java.nio.file.Path;
import java.util.ArrayList;
import java.util.List;
import java.util.stream.Collectors;
import java.util.stream.Stream;

/**
 * Runs the scripts under src/test/scripts. A file has cases "== title"; a case is made of runs on one
 * object, "++" between them; a run is what comes to the tape, "--", what is printed, and a line
 * "-- commands=.. tape=.. level=.. names=.. assertions=.. weight=.. mode=.." of what is answered and
 * counted then. A backslash stands before another one, or before xNN, the byte of that number.
 */
public final class ScriptsTest {
    private static int wrong = 0;
    private static int runs = 0;

    private static String plain(String text) {
        StringBuilder plain = new StringBuilder();
        for (int i = 0; i < text.length(); i++) {
            char c = text.charAt(i);
            if (c != '\\') {
                plain.append(c);
            } else if (text.charAt(i + 1) == 'x') {
                plain.append((char) Integer.parseInt(text.substring(i + 2, i + 4), 16));
                i += 3;
            } else {
                plain.append(text.charAt(i + 1));
                i++;
            }
        }
        return plain.toString();
    }

    private static void due(String where, String got, String want) {
        if (!got.equals(want)) {
            wrong++;
            System.out.println(where + " answered\n" + got + "\ndue is\n" + want);
        }
    }

    private static void oneRun(String where, ScriptSolver x, String script, String want, String counts) {
        runs++;
        Script.feed(x, plain(script));
        int commands = x.run();
        due(where, Script.result(x), plain(want));
        String got = "-- commands=" + commands + " tape=" + x.count(0) + " level=" + x.count(2) + " names=" + x.count(3)
                + " assertions=" + x.count(4) + " weight=" + x.count(5) + " mode=" + x.count(6);
        due(where, got, counts);
        due(where + " faults", x.count(7) + " " + x.count(8) + " " + x.count(9), "0 0 0");
    }

    private static String upTo(String mark, List<String> lines, int[] at) {
        StringBuilder text = new StringBuilder();
        while (!lines.get(at[0]).startsWith(mark)) {
            text.append(lines.get(at[0])).append('\n');
            at[0]++;
        }
        return text.toString();
    }

    private static void file(Path path) throws IOException {
        List<String> lines = new ArrayList<>(List.of(Files.readString(path, StandardCharsets.ISO_8859_1).split("\n", -1)));
        int[] at = {0};
        ScriptSolver x = null;
        String title = "";
        int number = 0;
        while (at[0] < lines.size() && !lines.get(at[0]).isEmpty()) {
            String line = lines.get(at[0]);
            if (line.startsWith("== ")) {
                x = new ScriptSolver();
                title = line;
                number = 0;
            }
            at[0]++;
            number++;
            String script = upTo("--", lines, at);
            at[0]++;
            String want = upTo("-- commands", lines, at);
            String where = path.getFileName() + " " + title + ", run " + number;
            oneRun(where, x, script.substring(0, script.length() - 1), want, lines.get(at[0]));
            at[0]++;
        }
    }

    public static void main(String[] args) throws IOException {
        List<Path> files;
        try (Stream<Path> all = Files.list(Path.of("src/test/scripts"))) {
            files = all.sorted().collect(Collectors.toList());
        }
        for (Path path : files) {
            file(path);
        }
        System.out.println(files.size() + " files, " + runs + " runs, " + wrong + " wrong");
        if (wrong != 0 || runs == 0) {
            System.exit(1);
        }
    }
}
