import java.io.IOException;
import java.nio.file.Files;
import java.nio.file.Path;
import java.util.Arrays;
import java.util.HashMap;
import java.util.Map;
import java.util.Set;
import java.util.TreeSet;
import java.util.regex.Matcher;
import java.util.regex.Pattern;

/** What of the rules of the language can be seen in the program's text; its path is the first argument. */
public final class LanguageTest {
    private static final Set<String> LIBRARY = Set.of("Arrays.fill", "System.arraycopy", "Math.max", "Math.min",
        "Integer.bitCount", "Long.MIN_VALUE");

    public static void main(String[] args) throws IOException {
        Check c = new Check();
        String path = args.length > 0 ? args[0] : "src/main/java/WireWatch.java";
        String whole = Files.readString(Path.of(path));
        c.isTrue("signs 1 to 127 alone", whole.chars().allMatch(v -> v > 0 && v < 128));
        String text = whole.replaceAll("(?s)/\\*.*?\\*/", "").replaceAll("//[^\n]*", "");
        c.isTrue("no package", !text.contains("package "));
        for (String word : "throw try catch synchronized assert yield protected native strictfp volatile transient var"
                .split(" ")) {
            c.isTrue("no " + word, !Pattern.compile("\\b" + word + "\\b").matcher(text).find());
        }
        c.isTrue("no lambda, no method reference", !text.contains("->") && !text.contains("::"));
        c.isTrue("no annotation", !text.contains("@"));
        c.isTrue("no static block", !Pattern.compile("static\\s*\\{").matcher(text).find());
        c.isTrue("no text", !text.contains("\""));
        c.due("imports", text.split("import ", -1).length - 1, 1);
        c.isTrue("the import", text.contains("import java.util.Arrays;"));
        c.isTrue("own equals, hashCode, toString", !text.matches("(?s).*\\b(equals|hashCode|toString)\\b.*"));
        library(c, text);
        loops(c, text);
        methods(c, text);
        c.end();
    }

    /** Names with a great letter, a point behind them, are the program's own classes or what the rules list. */
    private static void library(Check c, String text) {
        Set<String> own = new TreeSet<>();
        Matcher classes = Pattern.compile("class (\\w+)").matcher(text);
        while (classes.find()) {
            own.add(classes.group(1));
        }
        Matcher uses = Pattern.compile("\\b([A-Z]\\w*)\\.(\\w+)").matcher(text);
        while (uses.find()) {
            c.isTrue("listed: " + uses.group(), own.contains(uses.group(1)) || LIBRARY.contains(uses.group()));
        }
        Matcher made = Pattern.compile("\\bnew (\\w+)").matcher(text);
        while (made.find()) {
            c.isTrue("listed: " + made.group(), own.contains(made.group(1)) || made.group(1).equals("int"));
        }
    }

    /** A loop's own line has the counter's bound. */
    private static void loops(Check c, String text) {
        Matcher loops = Pattern.compile("\\b(for|while) \\((.*)\\) \\{").matcher(text);
        int found = 0;
        while (loops.find()) {
            found++;
            c.isTrue("an end: " + loops.group(), loops.group(2).matches(".* <=? .*"));
        }
        c.due("every loop was looked at", found, text.split("\\b(for|while|do)\\b", -1).length - 1);
    }

    private static void methods(Check c, String text) {
        String[] lines = text.split("\n");
        Pattern head = Pattern.compile("^( {4}| {8})\\S[^=;]*?(\\w+)\\([^;]*\\) \\{$");
        Map<String, String> bodies = new HashMap<>();
        int methods = 0;
        for (int k = 0; k < lines.length; k++) {
            Matcher m = head.matcher(lines[k]);
            if (m.matches() && !lines[k].matches("\\s*(for|if|while|switch|else|}).*")) {
                methods++;
                int end = Arrays.asList(lines).subList(k, lines.length).indexOf(m.group(1) + "}");
                c.isTrue("short: " + lines[k].strip(), end > 0 && end < 60);
                String body = String.join("\n", Arrays.copyOfRange(lines, k + 1, k + Math.max(end, 1)));
                // methods of one name are taken as one, which can only make the calls look deeper
                bodies.merge(m.group(2), body, String::concat);
            }
        }
        c.isTrue("methods were found", methods > 100);
        for (String name : bodies.keySet()) {
            c.isTrue("calls from " + name + " go at most eight deep", depth(c, bodies, name, 1) <= 8);
        }
    }

    /** How deep calls go; the one recursion, which counts its sizes down, is left out. */
    private static int depth(Check c, Map<String, String> bodies, String name, int open) {
        int deepest = 1;
        if (open > 20) {
            c.isTrue("a recursion by " + name, false);
            return deepest;
        }
        Matcher calls = Pattern.compile("\\b(\\w+)\\(").matcher(bodies.get(name));
        while (calls.find()) {
            String called = calls.group(1);
            boolean isKnown = called.equals("setsWith") && name.equals("setsWith");
            if (bodies.containsKey(called) && !isKnown) {
                deepest = Math.max(deepest, 1 + depth(c, bodies, called, open + 1));
            }
        }
        return deepest;
    }
}
