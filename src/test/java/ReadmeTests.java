import java.lang.reflect.Method;
import java.lang.reflect.Modifier;
import java.nio.charset.StandardCharsets;
import java.nio.file.Files;
import java.nio.file.Path;
import java.util.Set;
import java.util.TreeSet;
import java.util.regex.Matcher;
import java.util.regex.Pattern;

/** README.md's example answers what it says there, and its tables name statements and calls as they are. */
public final class ReadmeTests {
    private static final Pattern TOLD = Pattern.compile("\"([^\"]*)\"\\.toCharArray\\(\\)");
    private static final Pattern CALL = Pattern.compile("(?m)^x\\.(\\w+)\\(([^)]*)\\); +// (-?\\d+):");
    private static final Pattern STATEMENT = Pattern.compile("`([a-z][^`(]*;)`");
    private static final Pattern NAMED = Pattern.compile("`(\\w+)\\(([^)]*)\\)`");

    public static void main(String[] args) throws Exception {
        String page = Files.readString(Path.of("README.md"), StandardCharsets.UTF_8);
        example(page);
        statements(page);
        calls(page);
        Due.end("ReadmeTests");
    }

    private static void example(String page) throws Exception {
        PaperInBin x = new PaperInBin();
        Matcher told = TOLD.matcher(page);
        Due.is("a told office", told.find() ? 1 : 0, 1);
        Due.letters(x, told.group(1));
        Matcher call = CALL.matcher(page);
        int found = 0;
        while (call.find()) {
            found++;
            Due.is("README: " + call.group(), answer(x, call.group(1), call.group(2)), Long.parseLong(call.group(3)));
        }
        Due.is("calls in the example", found, 7);
    }

    private static long answer(PaperInBin x, String name, String told) throws Exception {
        String[] parts = told.isEmpty() ? new String[0] : told.split(", ");
        Object[] numbers = new Object[parts.length];
        Class<?>[] types = new Class<?>[parts.length];
        for (int i = 0; i < parts.length; i++) {
            numbers[i] = Integer.parseInt(parts[i]);
            types[i] = int.class;
        }
        return ((Number) PaperInBin.class.getMethod(name, types).invoke(x, numbers)).longValue();
    }

    private static void statements(String page) {
        Matcher m = STATEMENT.matcher(page);
        Set<Character> firsts = new TreeSet<>();
        while (m.find()) {
            firsts.add(m.group(1).charAt(0));
            Due.is("README: " + m.group(1), Due.tell(new PaperInBin(), m.group(1)), 1);
        }
        Due.is("words of statements " + firsts, firsts.size(), "bwchfip".length());
    }

    private static void calls(String page) {
        Set<String> named = new TreeSet<>();
        Matcher m = NAMED.matcher(page);
        while (m.find()) {
            named.add(m.group(1) + " " + (m.group(2).isEmpty() ? 0 : m.group(2).split(", ").length));
        }
        Set<String> face = new TreeSet<>();
        for (Method method : PaperInBin.class.getDeclaredMethods()) {
            if (Modifier.isPublic(method.getModifiers())) {
                face.add(method.getName() + " " + method.getParameterCount());
            }
        }
        Due.is("README names the calls " + face + ": " + named, named.equals(face) ? 1 : 0, 1);
    }
}
