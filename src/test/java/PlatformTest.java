import java.io.IOException;
import java.net.URI;
import java.nio.file.FileSystems;
import java.nio.file.Files;
import java.nio.file.Path;
import java.util.List;
import java.util.stream.Collectors;
import java.util.stream.Stream;

/** The classes of the platform's own base module are all kept, and their code is cut. */
public final class PlatformTest {
    private static final Check check = new Check();

    public static void main(String[] args) throws IOException {
        Path root = FileSystems.getFileSystem(URI.create("jrt:/")).getPath("/modules/java.base");
        List<Path> files;
        try (Stream<Path> all = Files.walk(root)) {
            files = all.filter(one -> one.toString().endsWith(".class")).sorted().collect(Collectors.toList());
        }
        for (Path one : files) {
            byte[] bytes = Files.readAllBytes(one);
            if (bytes.length <= 65540) {
                ask(one.toString(), bytes);
            }
        }
        check.end();
    }

    private static void ask(String name, byte[] bytes) {
        ClassGate gate = new ClassGate();
        Check.bring(gate, bytes);
        int rule = 0;
        if (bytes[7] > 61) {
            // A later platform's classes are beyond the gate's versions.
            rule = 3;
        } else if (name.endsWith("/module-info.class")) {
            rule = 15;
        } else if (name.endsWith("/java/lang/Object.class")) {
            rule = 17;
        }
        check.due(name, gate.read(), rule);
        for (int m = 0; m < gate.count(2); m++) {
            boolean hasCode = (gate.member(true, m, 0) & (256 | 1024)) == 0;
            int number = gate.cut(m);
            check.due(name + " method " + m, number > 0 ? 1 : number, hasCode ? 1 : -1);
        }
    }
}
