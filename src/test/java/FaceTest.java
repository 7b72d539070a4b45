import java.io.IOException;
import java.lang.reflect.Constructor;
import java.lang.reflect.Field;
import java.lang.reflect.Method;
import java.lang.reflect.Modifier;
import java.nio.file.Files;
import java.nio.file.Path;
import java.util.Arrays;
import java.util.HashMap;
import java.util.List;
import java.util.Map;
import java.util.Set;
import java.util.TreeSet;
import java.util.regex.Matcher;
import java.util.regex.Pattern;
import java.util.stream.Collectors;

/** The face of the class, the rules of the language that can be looked up, and that no call throws. */
public final class FaceTest {

    private static final Path PROGRAM = Path.of("src/main/java/KiteRegisters.java");
    private static final Path DOCUMENT = Path.of("../shared/DOC.md");

    private static final String[] METHODS = {
        "fly(int,int)", "takeDown(int)", "read(int)", "write(int,int)", "move(int,int)", "beat(int)",
        "wind(int,int)", "set(int,int)", "type(char)", "clearText()", "perform()", "stopped(int)", "undo()",
        "keep()", "restore()", "kite(int,int)", "string(int,int)", "drawn(int,int)", "share(int)", "windOf(int)",
        "ifRead(int,int)", "readsToCut(int)", "downIn(int,int)", "safeWind()", "calmest()", "count(int)"};

    private static final int[] EDGES = {Integer.MIN_VALUE, Integer.MIN_VALUE + 1, -10005, -1000, -999, -2, -1, 0, 1, 2,
        3, 4, 5, 6, 7, 8, 9, 10, 11, 12, 13, 20, 80, 81, 99, 100, 101, 200, 999, 1000, Integer.MAX_VALUE - 1,
        Integer.MAX_VALUE};

    private static int wrong = 0;

    public static void main(String[] args) throws ReflectiveOperationException, IOException {
        face();
        hidden();
        source();
        faceOfTheDocument();
        headingsOfTheDocument();
        noCallThrows();
        System.out.println(wrong == 0 ? "the face is as told" : wrong + " faults of the face");
        if (wrong != 0) {
            System.exit(1);
        }
    }

    private static void check(String what, boolean holds) {
        if (!holds) {
            wrong++;
            System.out.println("not so: " + what);
        }
    }

    private static String sign(Method m) {
        return m.getName() + "(" + Arrays.stream(m.getParameterTypes()).map(Class::getName)
                .collect(Collectors.joining(",")) + ")";
    }

    private static void face() {
        Class<?> c = KiteRegisters.class;
        check("the class is public and final", Modifier.isPublic(c.getModifiers()) && Modifier.isFinal(c.getModifiers()));
        check("it has no package", c.getPackageName().isEmpty());
        Set<String> due = new TreeSet<>(List.of(METHODS));
        Set<String> got = new TreeSet<>();
        for (Method m : c.getDeclaredMethods()) {
            if (!Modifier.isPrivate(m.getModifiers())) {
                got.add(sign(m));
                check(sign(m) + " is public, not static, and answers an int", Modifier.isPublic(m.getModifiers())
                        && !Modifier.isStatic(m.getModifiers()) && m.getReturnType() == int.class);
            }
        }
        check("the methods are " + due + ", not " + got, due.equals(got));
        Constructor<?>[] made = c.getDeclaredConstructors();
        check("one public constructor without arguments", made.length == 1
                && Modifier.isPublic(made[0].getModifiers()) && made[0].getParameterCount() == 0);
        Set<String> constants = new TreeSet<>();
        for (Field f : c.getDeclaredFields()) {
            if (!Modifier.isPrivate(f.getModifiers())) {
                constants.add(f.getName());
                check(f + " is a constant", f.toString().startsWith("public static final int "));
            }
        }
        check("the constants are not " + constants,
                constants.equals(Set.of("UNKNOWN", "BAD_VALUE", "FULL", "NOT_POSSIBLE", "NONE")));
    }

    /** "The public face": each of its lines stands in the class, in this order and with these names of arguments. */
    private static void faceOfTheDocument() throws IOException {
        String text = Files.readString(PROGRAM);
        Matcher m = Pattern.compile("\\n    (public [^;{\\n]*);").matcher(Files.readString(DOCUMENT));
        int lines = 0;
        int place = 0;
        for (; m.find(); lines++) {
            String ending = m.group(1).contains("=") ? ";" : " {";
            int found = text.indexOf("\n    " + m.group(1) + ending, place);
            check("as the document has it, and in its order: " + m.group(1), found >= 0);
            place = Math.max(place, found);
        }
        check("the document's face has 5 constants, a constructor and 26 methods, not " + lines, lines == 32);
    }

    /** "Ahead of the calls .. the interface says: ----": the heading, and then these calls before the next heading. */
    private static void headingsOfTheDocument() throws IOException {
        String text = Files.readString(PROGRAM);
        Matcher m = Pattern.compile("Ahead of the calls (.*) the interface says: (---- .*)\\.").matcher(Files.readString(DOCUMENT));
        int calls = 0;
        while (m.find()) {
            int start = text.indexOf("\n    // " + m.group(2) + "\n");
            check("the heading " + m.group(2), start >= 0);
            int next = text.indexOf("\n    // ----", start + 1);
            String group = text.substring(Math.max(0, start), next < 0 ? text.length() : next);
            for (String call : m.group(1).replace("`", "").split(", ")) {
                check(call + " stands behind " + m.group(2), group.contains("\n    public int " + call + "("));
                calls++;
            }
        }
        check("26 calls stand behind headings, not " + calls, calls == 26);
    }

    private static void hidden() {
        Set<String> open = Arrays.stream(METHODS).map(m -> m.substring(0, m.indexOf('('))).collect(Collectors.toSet());
        Class<?>[] inside = KiteRegisters.class.getDeclaredClasses();
        check("at most twelve classes", inside.length < 12);
        for (Class<?> c : inside) {
            check(c + " is static and hidden", Modifier.isStatic(c.getModifiers()) && !Modifier.isPublic(c.getModifiers())
                    && !Modifier.isProtected(c.getModifiers()));
            members(c, open);
        }
        members(KiteRegisters.class, open);
    }

    private static void members(Class<?> c, Set<String> open) {
        int fields = 0;
        for (Field f : c.getDeclaredFields()) {
            boolean isStatic = Modifier.isStatic(f.getModifiers());
            check(f + " is final if it is static", !isStatic || Modifier.isFinal(f.getModifiers()));
            fields += isStatic ? 0 : 1;
        }
        check(c + " has at most twenty fields", fields <= 20);
        for (Method m : c.getDeclaredMethods()) {
            check(m + " takes at most seven", m.getParameterCount() <= 7);
            check(m + " has a name of its own", Modifier.isPublic(m.getModifiers()) || !open.contains(m.getName()));
        }
    }

    private static void source() throws IOException {
        if (!Files.exists(PROGRAM)) {
            check("the tests are run from the project's root", false);
            return;
        }
        String text = Files.readString(PROGRAM);
        String code = Pattern.compile("/\\*.*?\\*/|//[^\\n]*", Pattern.DOTALL).matcher(text).replaceAll("");
        String bare = code.replaceAll("\"[^\"\\n]*\"|'(?:[^'\\\\]|\\\\.)'", "0");
        String[] words = {"throw", "throws", "try", "catch", "synchronized", "assert", "import", "package", "goto",
            "equals", "hashCode", "toString", "System", "Thread", "volatile", "transient", "native", "float", "double",
            "protected", "\\w*Exact", "\\w*Exception"};
        for (String word : words) {
            Matcher m = Pattern.compile("(?<![\\w.])" + word + "(?!\\w)").matcher(bare);
            while (m.find()) {
                check("without the word " + m.group(), false);
            }
        }
        check("no lambda, no method reference", !bare.contains("->") && !bare.contains("::"));
        check("characters 1 to 127 alone", text.chars().allMatch(ch -> ch > 0 && ch < 128));
        library(bare);
        callsAreNotDeep(bare);
        methodsAreShort(text);
    }

    /** Of the library only some functions of Math are called by the name of their class. */
    private static void library(String bare) {
        Matcher m = Pattern.compile("\\b([A-Z]\\w*[a-z]\\w*)(\\.\\w+)?").matcher(bare);
        while (m.find()) {
            boolean isOwn = Set.of("KiteRegisters", "Sky", "History", "Script", "String").contains(m.group(1));
            boolean isMath = Set.of("Math.max", "Math.min", "Math.floorMod").contains(m.group());
            check("of the library " + m.group(), isOwn || isMath);
        }
        Matcher called = Pattern.compile("\\bword\\.(\\w+)").matcher(bare);
        while (called.find()) {
            check("of texts " + called.group(), Set.of("length", "charAt").contains(called.group(1)));
        }
    }

    /** No method calls itself, also not by way of others, and no more than eight stand open at once. */
    private static void callsAreNotDeep(String bare) {
        Map<String, Set<String>> calls = new HashMap<>();
        Matcher opened = Pattern.compile("\\n( {4}| {8})(?:public|private) (?:static )?\\w+ (\\w+)\\(.*\\) \\{").matcher(bare);
        while (opened.find()) {
            int end = bare.indexOf("\n" + opened.group(1) + "}", opened.end());
            Matcher called = Pattern.compile("(\\w+)\\(").matcher(bare.substring(opened.end(), end));
            while (called.find()) {
                calls.computeIfAbsent(opened.group(2), name -> new TreeSet<>()).add(called.group(1));
            }
        }
        check("calls are found", calls.size() > 50);
        for (String name : calls.keySet()) {
            check(name + " is at most eight calls deep", depth(calls, name, 0) <= 8);
        }
    }

    private static int depth(Map<String, Set<String>> calls, String name, int above) {
        if (above > 20 || !calls.containsKey(name)) {
            return 1;
        }
        int deepest = 0;
        for (String called : calls.get(name)) {
            deepest = Math.max(deepest, depth(calls, called, above + 1));
        }
        return deepest + 1;
    }

    private static void methodsAreShort(String text) {
        String[] lines = text.split("\n");
        for (int i = 0; i < lines.length; i++) {
            String line = lines[i];
            boolean opens = line.matches("( {4}| {8})(public|private) .*\\) \\{");
            String close = line.replaceAll("\\S.*", "") + "}";
            int end = i;
            while (opens && end < lines.length && !lines[end].equals(close)) {
                end++;
            }
            check("at most sixty lines: " + line.trim(), end - i < 60);
        }
    }

    private static KiteRegisters begun() {
        KiteRegisters x = new KiteRegisters();
        for (int i = 0; i < 12; i++) {
            x.fly(i / 5, i);
            x.read(i);
        }
        x.takeDown(4);
        x.keep();
        for (char ch : "read 0;beat 3".toCharArray()) {
            x.type(ch);
        }
        return x;
    }

    private static void noCallThrows() throws ReflectiveOperationException {
        for (String name : METHODS) {
            Method m = Arrays.stream(KiteRegisters.class.getMethods()).filter(f -> sign(f).equals(name)).findFirst()
                    .orElse(null);
            if (m == null) {
                continue;
            }
            for (int a : EDGES) {
                sweep(m, a);
            }
        }
    }

    private static void sweep(Method m, int a) throws ReflectiveOperationException {
        KiteRegisters x = begun();
        KiteRegisters empty = new KiteRegisters();
        for (int b : EDGES) {
            for (KiteRegisters target : new KiteRegisters[] {x, empty}) {
                Object answer = null;
                switch (m.getParameterCount()) {
                    case 0 -> answer = m.invoke(target);
                    case 1 -> answer = m.getParameterTypes()[0] == char.class ? m.invoke(target, (char) a)
                            : m.invoke(target, a);
                    default -> answer = m.invoke(target, a, b);
                }
                check(m.getName() + " of " + a + " and " + b + " answers a number", answer instanceof Integer);
            }
        }
    }
}
