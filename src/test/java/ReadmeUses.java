import java.io.IOException;
import java.lang.reflect.Method;
import java.nio.file.Files;
import java.nio.file.Path;
import java.util.ArrayList;
import java.util.List;
import java.util.regex.Matcher;
import java.util.regex.Pattern;

/**
 * Makes a program of the java pieces of README.md which compares each call's answer with the one told behind it.
 * Arguments: README.md, and the file of the program to be made.
 */
public final class ReadmeUses {
    private static final Pattern PIECE = Pattern.compile("(?ms)^```java\n(.*?)^```$");
    private static final Pattern CALL = Pattern.compile("^cellar\\.(\\w+)(\\(.*?\\)); +// (-?\\d+|true|false)(:.*)?$");

    private ReadmeUses() {
    }

    public static void main(String[] args) throws IOException {
        List<String> wrong = new ArrayList<>();
        String readme = Files.readString(Path.of(args[0]));
        StringBuilder body = new StringBuilder();
        Matcher piece = PIECE.matcher(readme);
        while (piece.find()) {
            for (String line : piece.group(1).split("\n")) {
                body.append(asTest(line, wrong));
            }
        }
        for (Method method : CellarPushers.class.getDeclaredMethods()) {
            boolean isFace = (method.getModifiers() & java.lang.reflect.Modifier.PUBLIC) != 0;
            if (isFace && body.indexOf("cellar." + method.getName() + "(") < 0) {
                wrong.add("README.md shows no use of " + method.getName() + "()");
            }
        }
        Files.writeString(Path.of(args[1]), program(body));
        wrong.forEach(System.out::println);
        if (!wrong.isEmpty()) {
            System.exit(1);
        }
    }

    private static String asTest(String line, List<String> wrong) {
        Matcher call = CALL.matcher(line);
        if (call.matches()) {
            String use = "cellar." + call.group(1) + call.group(2);
            return "        due(\"" + use + "\", " + use + ", " + call.group(3) + ");\n";
        }
        if (line.startsWith("cellar.")) {
            wrong.add("README.md tells no answer: " + line);
        }
        return "        " + line + "\n";
    }

    private static String program(StringBuilder body) {
        return """
                public final class ReadmeTest {
                    private static int asked;
                    private static int wrong;

                    private static void due(String call, Object got, Object want) {
                        asked++;
                        if (!got.equals(want)) {
                            wrong++;
                            System.out.println("README.md: " + call + " answered " + got + ", told is " + want);
                        }
                    }

                    public static void main(String[] args) {
                """ + body + """
                        System.out.println("ReadmeTest: " + (asked - wrong) + " passed, " + wrong + " failed");
                        if (wrong != 0) {
                            System.exit(1);
                        }
                    }
                }
                """;
    }
}
