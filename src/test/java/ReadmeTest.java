import java.io.IOException;
import java.nio.file.Files;
import java.nio.file.Path;
import java.util.regex.Matcher;
import java.util.regex.Pattern;

/** The examples of README.md, with the answers that it tells. */
public final class ReadmeTest {
    private static final Due due = new Due("ReadmeTest");

    private ReadmeTest() {
    }

    public static void main(String[] args) throws IOException {
        CodedDeltas x = new CodedDeltas();
        plain(x);
        fault(x);
        ownTable(x);
        joined(x);
        everyCall(Files.readString(Path.of("README.md")));
        due.end();
    }

    private static void plain(CodedDeltas x) {
        due.is("fill SOURCE", x.fill(0, 0, 300, 3), 300);
        due.is("copy", x.copy(0, 75, 150, 1), 150);
        due.is("fill TARGET", x.fill(1, 0, 60, 9), 210);
        due.is("write", x.write(1, 1, 4000, false), 82);
        due.is("read", x.read(), 210);
        due.is("instructions", x.told(3), 2);
        due.is("kind", x.instruction(0, 0), 3);
        due.is("size", x.instruction(0, 1), 150);
        due.is("address", x.instruction(0, 2), 75);
    }

    private static void fault(CodedDeltas x) {
        due.is("alter", x.alter(2, 4, 7), 0);
        due.is("read", x.read(), -13);
        due.is("FAULT", x.told(0), 3);
        due.is("PLACE", x.told(1), 4);
        due.is("TARGET stays", x.length(1), 210);
    }

    private static void ownTable(CodedDeltas x) {
        due.is("kind of code 2", x.tableOctet(2, 3), 1);
        due.is("its SIZE", x.tableOctet(512 + 2, 150), 1);
        due.is("its MODE", x.tableOctet(1024 + 2, 0), 0);
        due.is("RIGHT", x.code(1, -1), 1);
        due.isTrue("write", x.write(1, 1, 4000, true) > 0);
        due.is("code", x.instruction(0, 4), 2);
        due.is("read", x.read(), 210);
    }

    private static void joined(CodedDeltas x) {
        x.feed(0, 0, 0);
        due.is("B", x.copy(1, 0, 210, 0), 210);
        x.feed(1, 0, 0);
        due.is("C", x.copy(0, 100, 80, 1), 80);
        int size = x.write(1, 1, 4000, false);
        due.is("SECOND", x.copy(2, 0, size, 3), size);
        x.feed(1, 0, 0);
        due.is("B again", x.copy(0, 0, 210, 1), 210);
        x.feed(0, 0, 0);
        due.is("SOURCE again", x.fill(0, 0, 300, 3), 300);
        due.is("from SOURCE to B", x.write(1, 1, 4000, false), 82);
        due.isTrue("join", x.join() > 0);
        due.is("its COPY", x.instruction(0, 1), 50);
        due.is("its ADD", x.instruction(1, 1), 30);
        due.is("read", x.read(), 80);
    }

    private static void everyCall(String text) {
        Matcher call = Pattern.compile("public int (\\w+)\\(").matcher(face());
        while (call.find()) {
            due.isTrue("README tells " + call.group(1), text.contains("| `" + call.group(1) + "("));
        }
    }

    private static String face() {
        StringBuilder all = new StringBuilder();
        for (java.lang.reflect.Method method : CodedDeltas.class.getDeclaredMethods()) {
            all.append(method.toString().replace("CodedDeltas.", "")).append('\n');
        }
        return all.toString();
    }
}
