import java.io.IOException;
import java.nio.charset.StandardCharsets;
import java.nio.file.Files;
import java.nio.file.Path;
import java.util.List;
import java.util.regex.Matcher;
import java.util.regex.Pattern;

/** What can be counted of ../shared/LANGUAGE.md in the source of the class. */
public final class LanguageTest {
    private static final String[] OUT = {
        "->", "::", "\\btry\\b", "\\bcatch\\b", "\\bfinally\\b", "\\bsynchronized\\b", "\\bassert\\b", "\\bprotected\\b",
        "\" \\+", "\\+ \"", "hashCode", "toString", "\\bMath\\.\\w+Exact\\b", "\\bSystem\\.(?!arraycopy)", "\\bnew \\w+\\[\\]\\["
    };
    private static final Pattern METHOD =
            Pattern.compile("^( {4}| {8})((?:public |private |static |final )*)(?:[\\w\\[\\]]+ )?(\\w+)\\(([^)]*)\\)[\\w ]* \\{$");
    private static final Pattern STATIC = Pattern.compile("^\\s+(?:public |private )?static (?!final|.*\\(.*\\{$).*$");

    private static int wrong = 0;

    private static void tell(int line, String what) {
        wrong++;
        System.out.println("line " + (line + 1) + ": " + what);
    }

    private static int length(List<String> lines, int start, String indent) {
        int stop = start;
        while (!lines.get(stop).equals(indent + "}")) {
            stop++;
        }
        return stop - start + 1;
    }

    private static void method(List<String> lines, int at, Matcher found) {
        boolean isFace = found.group(2).contains("public");
        String name = found.group(3);
        String parameters = found.group(4);
        if (length(lines, at, found.group(1)) > 60) {
            tell(at, name + " is longer than 60 lines");
        }
        if (!parameters.isEmpty() && parameters.split(",").length > 7) {
            tell(at, name + " takes more than seven parameters");
        }
        if (!isFace && List.of("feed", "end", "run", "word", "count").contains(name)) {
            tell(at, name + " bears the name of a public method");
        }
        for (int k = at; k < at + length(lines, at, found.group(1)); k++) {
            if (lines.get(k).contains("throw new") && !isFace) {
                tell(k, "a throw outside the face");
            }
        }
    }

    public static void main(String[] args) throws IOException {
        List<String> lines = Files.readAllLines(Path.of("src/main/java/ScriptSolver.java"), StandardCharsets.US_ASCII);
        int classes = 0;
        for (int k = 0; k < lines.size(); k++) {
            String code = lines.get(k).trim().startsWith("*") || lines.get(k).contains("/**") ? "" : lines.get(k);
            for (String out : OUT) {
                if (Pattern.compile(out).matcher(code).find() && !code.contains("_WORDS = ") && !code.contains("MARKS = ")) {
                    tell(k, "has " + out);
                }
            }
            if (code.startsWith("import ") && !code.equals("import java.util.Arrays;")) {
                tell(k, "imports more than Arrays");
            }
            if (STATIC.matcher(code).matches()) {
                tell(k, "a static field that is not final");
            }
            classes += code.matches(".*\\bclass \\w+.*") ? 1 : 0;
            Matcher found = METHOD.matcher(code);
            if (found.matches()) {
                method(lines, k, found);
            }
        }
        if (classes > 13) {
            tell(0, classes + " classes");
        }
        System.out.println(lines.size() + " lines, " + classes + " classes, " + wrong + " wrong");
        if (wrong != 0) {
            System.exit(1);
        }
    }
}
