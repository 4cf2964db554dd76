import java.io.IOException;
import java.lang.reflect.Method;
import java.lang.reflect.Modifier;
import java.nio.file.Files;
import java.nio.file.Path;
import java.util.List;
import java.util.TreeSet;
import java.util.regex.Matcher;
import java.util.regex.Pattern;

/**
 * Makes a program, ReadmeCalls.java, of the Java that README.md shows, in its order: each call that stands on a line of
 * its own is compared with the answer behind it. Ends with 1 if a call has no answer there, or one of the face is not
 * shown. Arguments: README.md, where to put the program.
 */
public final class ReadmeProgram {
    private static final Pattern CALL = Pattern.compile("house\\.(\\w+)\\(.*");
    private static final Pattern ANSWERED =
        Pattern.compile("(house\\.\\w+\\(.*\\));\\s*// (-?\\d+|NONE|UNKNOWN|OUTSIDE|NOT|FULL)(?:[:,;. ].*)?");
    private static final String HEAD = """
        public final class ReadmeCalls {
            private static int right = 0;
            private static int wrong = 0;

            private static void due(String call, int got, int want) {
                if (got == want) {
                    right++;
                    return;
                }
                wrong++;
                System.out.println("README.md: " + call + " answered " + got + ", the page says " + want);
            }

            public static void main(String[] args) {
        """;
    private static final String FOOT = """
                System.out.println("ReadmeCalls: " + right + " answers as the page says, " + wrong + " not");
                if (wrong > 0 || right == 0) {
                    System.exit(1);
                }
            }
        }
        """;

    private static final TreeSet<String> shown = new TreeSet<>();
    private static int bad = 0;

    public static void main(String[] args) throws IOException {
        StringBuilder program = new StringBuilder(HEAD);
        boolean inside = false;
        for (String line : Files.readAllLines(Path.of(args[0]))) {
            if (line.startsWith("```")) {
                inside = line.equals("```java");
            } else if (inside) {
                program.append("        ").append(statement(line)).append('\n');
            }
        }
        Files.writeString(Path.of(args[1]), program.append(FOOT));
        for (String name : face()) {
            if (!shown.contains(name)) {
                complain("does not show " + name + "() with an answer");
            }
        }
        System.exit(bad > 0 ? 1 : 0);
    }

    private static String statement(String line) {
        Matcher call = CALL.matcher(line);
        if (!call.matches()) {
            return line;
        }
        Matcher answered = ANSWERED.matcher(line);
        if (!answered.matches()) {
            complain("tells no answer of: " + line);
            return line;
        }
        shown.add(call.group(1));
        String want = answered.group(2);
        boolean isName = List.of("NONE", "UNKNOWN", "OUTSIDE", "NOT", "FULL").contains(want);
        String quoted = answered.group(1).replace("\\", "\\\\").replace("\"", "\\\"");
        return "due(\"" + quoted + "\", " + answered.group(1) + ", " + (isName ? "LastSentence." : "") + want + ");";
    }

    private static TreeSet<String> face() {
        TreeSet<String> names = new TreeSet<>();
        for (Method m : LastSentence.class.getDeclaredMethods()) {
            if (Modifier.isPublic(m.getModifiers())) {
                names.add(m.getName());
            }
        }
        return names;
    }

    private static void complain(String what) {
        bad++;
        System.out.println("README.md " + what);
    }
}
