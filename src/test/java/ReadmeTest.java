import java.io.IOException;
import java.lang.reflect.Method;
import java.nio.file.Files;
import java.nio.file.Path;
import java.util.ArrayList;
import java.util.Arrays;
import java.util.HashMap;
import java.util.List;
import java.util.Map;
import java.util.regex.Matcher;
import java.util.regex.Pattern;

/** The example of README.md, line by line: each call answers what stands behind it. */
public final class ReadmeTest extends Bench {

    private static final Pattern MADE = Pattern.compile("KiteRegisters registers = new KiteRegisters\\(\\);");
    private static final Pattern CALL = Pattern.compile(
            "(?:int (\\w+) = )?registers\\.(\\w+)\\(([^()]*)\\); +// (-?\\d+|[A-Z_]+)(?:: .*)?");
    private static final Pattern TYPED = Pattern.compile("for \\(char c : \"([^\"]*)\"\\.toCharArray\\(\\)\\) \\{");
    private static final List<String> TYPED_REST = List.of("    registers.type(c);", "}");

    private static final Map<String, Integer> NAMED = new HashMap<>();

    private static KiteRegisters registers;
    private static int calls = 0;

    private ReadmeTest() {
    }

    public static void main(String[] args) throws IOException, ReflectiveOperationException {
        about("README.md");
        List<String> lines = example();
        for (int i = 0; i < lines.size(); i++) {
            i += run(lines, i);
        }
        if (calls < 20) {
            fail("only " + calls + " calls of an example");
        }
        end("the example of README.md holds");
    }

    private static List<String> example() throws IOException {
        List<String> lines = new ArrayList<>();
        boolean isExample = false;
        for (String line : Files.readString(Path.of("README.md")).split("\n")) {
            if (line.startsWith("```")) {
                isExample = line.equals("```java");
            } else if (isExample) {
                lines.add(line);
            }
        }
        return lines;
    }

    /** Answers how many lines more it took. */
    private static int run(List<String> lines, int at) throws ReflectiveOperationException {
        String line = lines.get(at);
        Matcher call = CALL.matcher(line);
        Matcher typed = TYPED.matcher(line);
        if (MADE.matcher(line).matches()) {
            registers = new KiteRegisters();
        } else if (call.matches() && registers != null) {
            answered(call);
        } else if (typed.matches() && registers != null
                && lines.subList(at + 1, Math.min(at + 3, lines.size())).equals(TYPED_REST)) {
            for (char c : typed.group(1).toCharArray()) {
                registers.type(c);
            }
            return TYPED_REST.size();
        } else if (!line.isEmpty() && !line.startsWith("// ")) {
            fail("no test knows the line " + line);
        }
        return 0;
    }

    private static void answered(Matcher call) throws ReflectiveOperationException {
        calls++;
        String told = call.group(4);
        int want = told.matches("[A-Z_]+") ? KiteRegisters.class.getField(told).getInt(null) : Integer.parseInt(told);
        int got = (int) method(call.group(2)).invoke(registers, arguments(call.group(3)));
        due(call.group(2) + "(" + call.group(3) + ")", got, want);
        if (call.group(1) != null) {
            NAMED.put(call.group(1), got);
        }
    }

    private static Method method(String name) throws NoSuchMethodException {
        return Arrays.stream(KiteRegisters.class.getMethods()).filter(m -> m.getName().equals(name)).findFirst()
                .orElseThrow(() -> new NoSuchMethodException(name));
    }

    private static Object[] arguments(String text) {
        if (text.isEmpty()) {
            return new Object[0];
        }
        return Arrays.stream(text.split(", ")).map(a -> NAMED.containsKey(a) ? NAMED.get(a) : Integer.valueOf(a)).toArray();
    }
}
