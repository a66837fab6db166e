import java.io.IOException;
import java.lang.reflect.Method;
import java.lang.reflect.Modifier;
import java.nio.file.Files;
import java.nio.file.Path;
import java.util.Arrays;
import java.util.Set;
import java.util.TreeSet;
import java.util.regex.Matcher;
import java.util.regex.Pattern;

/** What README.md says that calls answer is what they answer, and it shows every call of the face. */
public final class ReadmeTest {
    private static final Pattern CALL = Pattern.compile("^x\\.(\\w+)\\((.*)\\); *// (-?\\d+)(:.*)?$");

    public static void main(String[] args) throws IOException {
        Check c = new Check();
        WireWatch x = new WireWatch();
        Set<String> unshown = new TreeSet<>();
        for (Method m : WireWatch.class.getDeclaredMethods()) {
            if (Modifier.isPublic(m.getModifiers())) {
                unshown.add(m.getName());
            }
        }
        for (String line : Files.readAllLines(Path.of("README.md"))) {
            if (!line.startsWith("x.")) {
                continue;
            }
            Matcher call = CALL.matcher(line);
            boolean isWhole = call.matches();
            c.isTrue("a call with its answer: " + line, isWhole);
            if (isWhole) {
                c.due(line, Calls.ask(x, call.group(1), numbers(call.group(2))), Long.parseLong(call.group(3)));
                unshown.remove(call.group(1));
            }
        }
        c.isTrue("shown in README.md: " + unshown, unshown.isEmpty());
        c.end();
    }

    private static Object[] numbers(String told) {
        if (told.isEmpty()) {
            return new Object[0];
        }
        return Arrays.stream(told.split(", "))
            .map(s -> s.equals("true") || s.equals("false") ? (Object) Boolean.valueOf(s) : (Object) Integer.valueOf(s))
            .toArray();
    }
}
