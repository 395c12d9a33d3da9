import java.io.IOException;
import java.nio.file.Files;
import java.nio.file.Path;
import java.util.ArrayList;
import java.util.List;
import java.util.Map;
import java.util.Set;
import java.util.TreeMap;
import java.util.TreeSet;
import java.util.regex.Matcher;
import java.util.regex.Pattern;

/** What of LANGUAGE.md can be seen in the program's text; its path is the argument. */
public final class LanguageTest {
    private static final Set<String> FACE = Set.of("field", "line", "barrel", "man", "want", "step", "walk", "push",
            "can", "undo", "redo", "kind", "on", "far", "isDone", "isReady", "dead", "held", "spoilt", "why", "low",
            "price", "fewest", "steps", "plan", "follow", "tell", "copy", "forge", "hush", "check", "count");
    private static final Pattern METHOD = Pattern.compile(
            "^( +)((?:public |private |static )*)([A-Za-z\\[\\]]+) ([a-zA-Z]+)\\(([^)]*)\\) \\{$");
    private static final Pattern LIBRARY = Pattern.compile(
            "\\b(String|StringBuilder|System|Arrays|Math|Integer|Long|Object|Character|Boolean)\\.?(\\w*)");

    private static final Pattern HEAD = Pattern.compile("^ +[\\w\\[\\] ]*?\\b(\\w+)\\([^()]*\\) \\{$");
    private static final Pattern CALL = Pattern.compile("\\b(?!(?:if|for|while|switch|return)\\b)(\\w+)\\(");

    private static int passed;
    private static int failed;

    private LanguageTest() {
    }

    public static void main(String[] args) throws IOException {
        String text = Files.readString(Path.of(args[0]));
        String code = text.replaceAll("(?s)/\\*.*?\\*/", "").replaceAll("//.*", "");
        noWords(code);
        library(code);
        statics(code);
        methods(code);
        rule("3: signs of the text", text.chars().allMatch(c -> c == '\n' || c >= 32 && c < 127));
        rule("11: classes", count(code, "\\bclass \\w+") <= 12);
        callDepths(code);
        System.out.println("LanguageTest: " + passed + " passed, " + failed + " failed");
        if (failed != 0) {
            System.exit(1);
        }
    }

    private static void rule(String what, boolean kept) {
        if (kept) {
            passed++;
        } else {
            failed++;
            System.out.println("LANGUAGE.md, rule " + what);
        }
    }

    private static int count(String code, String pattern) {
        Matcher matcher = Pattern.compile(pattern).matcher(code);
        int count = 0;
        while (matcher.find()) {
            count++;
        }
        return count;
    }

    private static void noWords(String code) {
        for (String word : List.of("throw", "throws", "try", "catch", "synchronized", "assert", "package", "protected",
                "native", "volatile", "float", "double", "equals", "hashCode", "toString", "Exact", "var", "yield")) {
            rule("3, 4 and 6: no '" + word + "'", count(code, "\\b" + word + "\\b") == 0);
        }
        rule("2: no lambda", !code.contains("->"));
        rule("2: no method reference", !code.contains("::"));
        rule("1: one public class", count(code, "\\bpublic (?:final )?class\\b") == 1);
        rule("2: classes inside are static", count(code, "(?m)^ +private static final class ")
                == count(code, "\\bclass \\w+") - 1);
    }

    private static void library(String code) {
        Set<String> allowed = Set.of("Arrays.fill", "Arrays.copyOf", "Math.max", "Math.min", "Integer.bitCount",
                "Long.bitCount");
        Matcher matcher = LIBRARY.matcher(code.replaceAll("(?m)^import .*", ""));
        while (matcher.find()) {
            rule("4: " + matcher.group(), allowed.contains(matcher.group()));
        }
        rule("4: imports", count(code, "(?m)^import ") == count(code, "(?m)^import java\\.util\\.Arrays;"));
    }

    private static void statics(String code) {
        Matcher matcher = Pattern.compile("(?m)^ +((?:private |static |final )*static [^(={]*)=").matcher(code);
        while (matcher.find()) {
            rule("5: " + matcher.group(1), matcher.group(1).startsWith("private static final "));
        }
    }

    private static void methods(String code) {
        List<String> open = new ArrayList<>();
        Set<String> face = new TreeSet<>();
        int from = 0;
        String[] lines = code.split("\n");
        for (int i = 0; i < lines.length; i++) {
            Matcher matcher = METHOD.matcher(lines[i]);
            if (matcher.matches() && !matcher.group(4).equals("CellarPushers")) {
                open.add(lines[i]);
                from = i;
                head(matcher, face);
            }
            if (lines[i].equals("    }") || lines[i].equals("        }")) {
                rule("11: a long method before line " + (i + 1), i - from <= 60 || open.isEmpty());
                from = i;
            }
        }
        rule("1: the face", face.equals(new TreeSet<>(FACE)));
    }

    private static void head(Matcher matcher, Set<String> face) {
        String name = matcher.group(4);
        boolean isPublic = matcher.group(2).contains("public ");
        if (isPublic) {
            face.add(name);
        }
        rule("1: " + name, isPublic || !FACE.contains(name));
        rule("1: " + name + " is neither public nor private",
                matcher.group(1).length() > 4 || !matcher.group(2).isEmpty() && !matcher.group(2).equals("static "));
        rule("11: " + name, matcher.group(5).isEmpty() || matcher.group(5).split(",").length <= 7);
    }

    /** Calls are told apart by their names alone, so a depth may be told too large, never too small. */
    private static void callDepths(String code) {
        Map<String, Set<String>> calls = new TreeMap<>();
        String method = "";
        for (String line : code.split("\n")) {
            Matcher head = HEAD.matcher(line);
            boolean isHead = head.matches();
            method = isHead ? head.group(1) : method;
            Matcher call = CALL.matcher(isHead || method.isEmpty() ? "" : line);
            while (call.find()) {
                calls.computeIfAbsent(method, name -> new TreeSet<>()).add(call.group(1));
            }
        }
        rule("11: calls were seen", calls.size() > FACE.size());
        for (String name : FACE) {
            int depth = depthOf(calls, name, new ArrayList<>());
            rule("8 and 11: calls of " + name + " are " + depth + " deep", depth <= 8);
        }
    }

    /** A method that is open already is recursion, which the program does without. */
    private static int depthOf(Map<String, Set<String>> calls, String method, List<String> open) {
        if (open.contains(method)) {
            return 1000;
        }
        open.add(method);
        int deepest = 0;
        for (String called : calls.getOrDefault(method, Set.of())) {
            deepest = Math.max(deepest, depthOf(calls, called, open));
        }
        open.remove(method);
        return deepest + 1;
    }
}
