import java.io.IOException;
import java.nio.charset.StandardCharsets;
import java.nio.file.Files;
import java.nio.file.Path;
import java.util.Arrays;

/** What README.md shows of the class's use: the calls of its first example, and the script with its answers. */
public final class ReadmeTest {
    private static String[] blocks(String text) {
        return Arrays.stream(text.split("```text\n")).skip(1).map(block -> block.substring(0, block.indexOf("```"))).toArray(String[]::new);
    }

    private static void calls() {
        Script s = new Script("README.md, the calls one by one");
        s.due("feed", s.x.feed(0x28636865, 0x636b2d73, 0x61742920, 0x20202020, 0x20202020), 20);
        s.due("end(11)", s.x.end(11), 11);
        s.due("run()", s.x.run(), 1);
        s.due("count(1)", s.x.count(1), 4);
        s.due("word(0)", Long.toHexString(s.x.word(0)), "7361740a00000000");
        s.due("count(6)", s.x.count(6), 1);
    }

    private static void zerosAreNoBlanks() {
        Script s = new Script("README.md: zeros are no blanks");
        s.x.feed(0x28636865, 0x636b2d73, 0x61742900, 0, 0);
        s.due("run()", s.x.run(), 2);
        s.due("the result", s.result(), "sat\n(error \"syntax\")\n");
        s.shows(0, 0);
    }

    private static void halfACommandStays() {
        Script s = new Script("README.md: what is not whole yet stays on the tape");
        s.due("run()", s.feed("(check-sat)(echo \"a").x.run(), 1);
        s.shows(0, 8).prints(" b\")", "\"a b\"").shows(0, 0);
        s.due("run()", s.feed("word").x.run(), 0);
        s.due("run()", s.feed(" ").x.run(), 1);
    }

    public static void main(String[] args) throws IOException {
        String[] blocks = blocks(Files.readString(Path.of("README.md"), StandardCharsets.UTF_8));
        calls();
        zerosAreNoBlanks();
        halfACommandStays();
        Script s = new Script("README.md, the script and its answers");
        s.due("blocks", blocks.length, 2);
        s.prints(blocks[0], blocks[1].split("\n"));
        Script.end();
    }
}
