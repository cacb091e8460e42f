import java.io.IOException;
import java.lang.reflect.Method;
import java.lang.reflect.Modifier;
import java.nio.file.Files;
import java.nio.file.Path;
import java.util.regex.Pattern;

/** README.md: it tells of each public call, and its example does what its comments say. */
public final class ReadmeTest {
    private static final Path README = Path.of("README.md");
    private static final Path HERE = Path.of("src/test/java/ReadmeTest.java");

    public static void main(String[] args) throws IOException {
        Bench b = new Bench("README");
        String readme = Files.readString(README);
        calls(b, readme);
        exampleIsTheOneBelow(b, readme);
        example(b);
        b.finish();
    }

    private static void calls(Bench b, String readme) {
        int rows = 0;
        for (Method m : FieldRelay.class.getDeclaredMethods()) {
            if (Modifier.isPublic(m.getModifiers())) {
                rows++;
                b.yes("a row for " + m, rowFor(m).matcher(readme).find());
            }
        }
        b.is("public calls", rows, 20);
        b.yes("the constructor", readme.contains("`FieldRelay()`"));
        b.yes("REFUSED", readme.contains("`REFUSED` (" + FieldRelay.REFUSED + ","));
        b.yes("NONE", readme.contains("`NONE` (" + FieldRelay.NONE + ","));
        b.yes("how the tests are run", readme.contains("\n.ci/run\n"));
    }

    private static Pattern rowFor(Method m) {
        StringBuilder s = new StringBuilder("(?m)^\\| `").append(m.getReturnType()).append(' ').append(m.getName());
        String before = "\\(";
        for (Class<?> p : m.getParameterTypes()) {
            s.append(before).append(p).append(" \\w+");
            before = ", ";
        }
        return Pattern.compile(s.append("\\)` \\| \\S.* \\|$").toString());
    }

    private static void exampleIsTheOneBelow(Bench b, String readme) throws IOException {
        String own = Files.readString(HERE);
        String block = readme.split("```java\n")[1].split("```")[0];
        for (String line : block.split("\n")) {
            String code = line.replaceAll("//.*", "").trim();
            b.yes("in the example: " + code, own.contains(code + "\n"));
        }
    }

    private static void example(Bench b) {
        FieldRelay x = new FieldRelay();
        x.name(0, 3);
        x.plug(0, 0, 1);
        x.target(0, 3);
        x.expect(0, 0, 1, 0);
        x.give(0, 0, 0, 42);
        x.open(0);
        b.wire("opened", x, 1);
        while (x.count(3) > 0) {
            x.deliver(0);
        }
        b.is("the relation is in DATA", x.relation(0, 0), 6);
        b.is("the device is in DATA", x.device(0, 0), 3);
        x.tick(1);
        b.wire("a cycle", x, 12, 13);
        x.deliver(0);
        int shown = x.data(0, 0, 0, 0);
        b.is("shown", shown, 42);
    }
}
