import java.lang.reflect.Constructor;
import java.lang.reflect.Field;
import java.lang.reflect.Method;
import java.lang.reflect.Modifier;
import java.nio.charset.StandardCharsets;
import java.nio.file.Files;
import java.nio.file.Path;
import java.util.ArrayList;
import java.util.List;
import java.util.Map;
import java.util.Set;
import java.util.TreeMap;
import java.util.TreeSet;
import java.util.regex.Matcher;
import java.util.regex.Pattern;

/** The face, and those of LANGUAGE.md's rules that can be seen from the text. */
public final class LanguageTests {
    private static final String[] FACE = {
        "int letter(int)", "int office()", "int ball(int, int)", "int crumple(int, int)",
        "int fly(int, int, int, int)", "int throwIt(int, int, int)", "int pass(int)", "int clearBin()",
        "int good(int, int, int)", "int best(int, int)", "int off(int, int)", "int when(int, int, int)",
        "int crumpled(int, int, int)", "int fills(int, int, int)", "int whose(int, int, int)",
        "long inRow(int, int, int)", "long soMany(int, int, int, int)", "int farthest(int)", "int row(int)",
        "int judge()", "int lots(int, int)", "int image()", "int on()", "int count(int)"};
    private static final String[] FORBIDDEN = {
        "throw", "throws", "try", "catch", "synchronized", "assert", "import", "package", "System", "Object",
        "->", "::", "lambda", "Exact", "hashCode", "toString", "equals", "volatile", "native", "Random", "Thread"};
    private static final int LONGEST_METHOD = 60;
    private static final int DEEPEST_CALL = 8;
    private static final Pattern HEAD =
            Pattern.compile("^( +)(?:private|public) [^=;]*?(\\w+)\\(([^)]*)\\) \\{$");

    public static void main(String[] args) throws Exception {
        face();
        fields();
        nested();
        String source = Files.readString(Path.of("src/main/java/PaperInBin.java"), StandardCharsets.UTF_8);
        words(source);
        methods(source);
        callsGoNotTooDeep(source);
        Due.end("LanguageTests");
    }

    private static void face() {
        Set<String> wanted = new TreeSet<>(List.of(FACE));
        Set<String> found = new TreeSet<>();
        Set<String> names = new TreeSet<>();
        for (Method m : PaperInBin.class.getDeclaredMethods()) {
            if (!Modifier.isPrivate(m.getModifiers())) {
                Due.is("public: " + m, Modifier.isPublic(m.getModifiers()) ? 1 : 0, 1);
                Due.is("not static: " + m, Modifier.isStatic(m.getModifiers()) ? 1 : 0, 0);
                List<String> types = new ArrayList<>();
                for (Class<?> type : m.getParameterTypes()) {
                    types.add(type.getName());
                }
                found.add(m.getReturnType().getName() + " " + m.getName() + "(" + String.join(", ", types) + ")");
                names.add(m.getName());
            }
        }
        Due.is("the face " + found, found.equals(wanted) ? 1 : 0, 1);
        for (Method m : PaperInBin.class.getDeclaredMethods()) {
            Due.is("private with a public one's name: " + m,
                    Modifier.isPrivate(m.getModifiers()) && names.contains(m.getName()) ? 1 : 0, 0);
        }
        Constructor<?>[] constructors = PaperInBin.class.getDeclaredConstructors();
        Due.is("constructors", constructors.length, 1);
        Due.is("it is public", Modifier.isPublic(constructors[0].getModifiers()) ? 1 : 0, 1);
        Due.is("it takes nothing", constructors[0].getParameterCount(), 0);
        Due.is("final", Modifier.isFinal(PaperInBin.class.getModifiers()) ? 1 : 0, 1);
    }

    private static void fields() {
        List<Class<?>> all = new ArrayList<>(List.of(PaperInBin.class.getDeclaredClasses()));
        all.add(PaperInBin.class);
        for (Class<?> c : all) {
            int fields = 0;
            for (Field f : c.getDeclaredFields()) {
                Due.is("private: " + f, Modifier.isPrivate(f.getModifiers()) ? 1 : 0, 1);
                if (Modifier.isStatic(f.getModifiers())) {
                    Due.is("static, so final: " + f, Modifier.isFinal(f.getModifiers()) ? 1 : 0, 1);
                } else {
                    fields++;
                }
            }
            Due.is("at most twenty fields: " + c, fields <= 20 ? 1 : 0, 1);
        }
    }

    private static void nested() {
        Class<?>[] inside = PaperInBin.class.getDeclaredClasses();
        Due.is("at most twelve classes", inside.length <= 11 ? 1 : 0, 1);
        for (Class<?> c : inside) {
            Due.is("static: " + c, Modifier.isStatic(c.getModifiers()) ? 1 : 0, 1);
            Due.is("not public: " + c, Modifier.isPublic(c.getModifiers()) ? 1 : 0, 0);
            for (Method m : c.getDeclaredMethods()) {
                Due.is("private: " + m, Modifier.isPrivate(m.getModifiers()) ? 1 : 0, 1);
                Due.is("a public one's name: " + m, isOfTheFace(m.getName()) ? 1 : 0, 0);
            }
        }
    }

    private static boolean isOfTheFace(String name) {
        for (String head : FACE) {
            if (head.contains(" " + name + "(")) {
                return true;
            }
        }
        return false;
    }

    private static void words(String source) {
        String code = source.replaceAll("(?s)/\\*.*?\\*/", "").replaceAll("//[^\n]*", "");
        for (String word : FORBIDDEN) {
            String pattern = Character.isLetter(word.charAt(0)) ? "\\b" + word + "\\b" : Pattern.quote(word);
            Due.is("the word " + word, Pattern.compile(pattern).matcher(code).find() ? 1 : 0, 0);
        }
        for (int i = 0; i < source.length(); i++) {
            if (source.charAt(i) > 127 || source.charAt(i) == '\t') {
                Due.is("a sign at " + i, source.charAt(i), 127);
            }
        }
        Set<String> made = new TreeSet<>();
        Matcher makes = Pattern.compile("\\bnew \\w+").matcher(code);
        while (makes.find()) {
            made.add(makes.group());
        }
        made.removeAll(List.of("new Office", "new Text", "new Flight", "new Lot", "new Odds", "new int"));
        Due.is("made beside the object's own " + made, made.size(), 0);
    }

    /** No method is long, or takes more than seven numbers. */
    private static void methods(String source) {
        String[] lines = source.split("\n");
        int found = 0;
        for (int i = 0; i < lines.length; i++) {
            Matcher m = HEAD.matcher(lines[i]);
            if (m.matches()) {
                found++;
                int end = endOf(lines, i, m.group(1));
                Due.is("not too long: " + lines[i], end - i + 1 <= LONGEST_METHOD ? 1 : 0, 1);
                Due.is("not too many: " + lines[i], m.group(3).split(",").length <= 7 ? 1 : 0, 1);
            }
        }
        Due.is("methods found", found >= FACE.length ? 1 : 0, 1);
    }

    /** The line of the brace that ends what begins at a line with that indent. */
    private static int endOf(String[] lines, int begin, String indent) {
        int end = begin;
        while (!lines[end].equals(indent + "}")) {
            end++;
        }
        return end;
    }

    /** No chain of calls is long, and none comes back to where it was: the program has no recursion. */
    private static void callsGoNotTooDeep(String source) {
        String[] lines = source.split("\n");
        Map<String, Set<String>> calls = new TreeMap<>();
        for (int i = 0; i < lines.length; i++) {
            Matcher m = HEAD.matcher(lines[i]);
            if (m.matches()) {
                Set<String> called = calls.computeIfAbsent(m.group(2), name -> new TreeSet<>());
                for (int j = i + 1; j < endOf(lines, i, m.group(1)); j++) {
                    Matcher call = Pattern.compile("\\b(\\w+)\\(").matcher(lines[j]);
                    while (call.find()) {
                        called.add(call.group(1));
                    }
                }
            }
        }
        for (String name : calls.keySet()) {
            int depth = depth(calls, name, 1);
            Due.is("calls of " + name + " go " + depth + " deep", depth <= DEEPEST_CALL ? 1 : 0, 1);
        }
    }

    private static int depth(Map<String, Set<String>> calls, String name, int above) {
        int deepest = 1;
        if (above <= 2 * DEEPEST_CALL) {
            for (String called : calls.get(name)) {
                if (calls.containsKey(called)) {
                    deepest = Math.max(deepest, 1 + depth(calls, called, above + 1));
                }
            }
        }
        return deepest;
    }
}
