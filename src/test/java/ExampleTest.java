import java.io.IOException;
import java.nio.charset.StandardCharsets;
import java.nio.file.Files;
import java.nio.file.Path;

/** The example of README.md: it answers what is written beside it, and README.md has it as it stands here. */
public final class ExampleTest {
    private static final Check check = new Check();

    public static void main(String[] args) throws IOException {
        answers();
        standsInReadme();
        check.end();
    }

    private static void answers() {
        // The example begins here.
        ClassGate gate = new ClassGate();
        // public class Main { public static void m() { } }, four bytes in each number
        gate.feed(0xCAFEBABE, 0x0000003D, 0x00080700, 0x02010004, 0x4D61696E);
        gate.feed(0x07000401, 0x00106A61, 0x76612F6C, 0x616E672F, 0x4F626A65);
        gate.feed(0x63740100, 0x016D0100, 0x03282956, 0x01000443, 0x6F646500);
        gate.feed(0x21000100, 0x03000000, 0x00000100, 0x09000500, 0x06000100);
        gate.feed(0x07000000, 0x0D000000, 0x00000000, 0x01B10000, 0x00000000);
        int size = gate.end(100);                   // 100: so many of the bytes are the file
        int rule = gate.read();                     // 0: it is kept; else the rule that it breaks
        int place = gate.place();                   // -1: nothing is wrong; else where that is
        int method = gate.find(true, 5, 6);         // 0: the method with the texts of entries 5 and 6
        int length = gate.member(true, method, 4);  // 1: its code_length
        int number = gate.cut(method);              // 1: so many instructions
        int opcode = gate.instruction(method, 0, 0);    // 177: the first of them is return
        // The example ends here.
        check.due("size", size, 100);
        check.due("rule", rule, 0);
        check.due("place", place, -1);
        check.due("method", method, 0);
        check.due("length", length, 1);
        check.due("number", number, 1);
        check.due("opcode", opcode, 177);
    }

    private static void standsInReadme() throws IOException {
        String source = text("src/test/java/ExampleTest.java");
        String begin = "// The example begins here.\n";
        int from = source.indexOf(begin) + begin.length();
        int to = source.indexOf("        // The example ends here.\n");
        check.due("the example is marked", from >= begin.length() && to > from ? 1 : 0, 1);
        String example = source.substring(from, Math.max(from, to)).replace("\n        ", "\n").strip();
        check.due("README.md has it", text("README.md").contains("```java\n" + example + "\n```") ? 1 : 0, 1);
    }

    /** Tests are run in the project's own directory. */
    private static String text(String name) throws IOException {
        return Files.readString(Path.of(name), StandardCharsets.UTF_8).replace("\r\n", "\n");
    }
}
