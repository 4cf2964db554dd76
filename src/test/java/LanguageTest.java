import java.io.IOException;
import java.lang.reflect.Constructor;
import java.lang.reflect.Field;
import java.lang.reflect.Method;
import java.lang.reflect.Modifier;
import java.nio.file.Files;
import java.nio.file.Path;
import java.util.ArrayList;
import java.util.Arrays;
import java.util.List;
import java.util.TreeSet;
import java.util.regex.Matcher;
import java.util.regex.Pattern;

/** The face of the document, and those rules of LANGUAGE.md that can be told by looking. */
public final class LanguageTest {
    private static final Check check = new Check("LanguageTest");
    private static final String FACE = "ask() candle(int,int) couldBe() door(int,int) drift(int) fault() feed(int)"
        + " fewest(int,int,int) go(int,int) goBack(int) heir(int,int) hour(int) judge() keep(int) light(int) manor()"
        + " out(int) quiet(int,int) reading(int,int) room(int,int) say(int) see(int,boolean) seed(int) tear() told(int)"
        + " undo(int) wall(int,int) way(int,int) write(int,int)";

    public static void main(String[] args) throws IOException {
        face();
        constants();
        namesAndFields();
        source();
        check.end();
    }

    private static void face() {
        check.due("the class is public and final", LastSentence.class.getModifiers() & (Modifier.PUBLIC | Modifier.FINAL),
            Modifier.PUBLIC | Modifier.FINAL);
        TreeSet<String> found = new TreeSet<>();
        for (Method m : LastSentence.class.getDeclaredMethods()) {
            if (m.isSynthetic() || Modifier.isPrivate(m.getModifiers())) continue;
            check.due(m.getName() + " is public and no more", m.getModifiers(), Modifier.PUBLIC);
            check.same(m.getName() + " answers", m.getReturnType().getName(), "int");
            List<String> types = new ArrayList<>();
            for (Class<?> type : m.getParameterTypes()) types.add(type.getName());
            found.add(m.getName() + "(" + String.join(",", types) + ")");
        }
        check.same("the face", String.join(" ", found), String.join(" ", new TreeSet<>(Arrays.asList(FACE.split(" ")))));
        Constructor<?>[] constructors = LastSentence.class.getDeclaredConstructors();
        check.due("one constructor", constructors.length, 1);
        check.due("it takes nothing", constructors[0].getParameterCount(), 0);
        check.due("it is public", constructors[0].getModifiers(), Modifier.PUBLIC);
    }

    private static void constants() {
        check.due("NONE", LastSentence.NONE, -1);
        check.due("UNKNOWN", LastSentence.UNKNOWN, -1000000001);
        check.due("OUTSIDE", LastSentence.OUTSIDE, -1000000002);
        check.due("NOT", LastSentence.NOT, -1000000003);
        check.due("FULL", LastSentence.FULL, -1000000004);
        TreeSet<String> open = new TreeSet<>();
        for (Field f : LastSentence.class.getDeclaredFields()) {
            if (!Modifier.isPrivate(f.getModifiers())) open.add(f.getName());
        }
        check.same("the constants", open.toString(), "[FULL, NONE, NOT, OUTSIDE, UNKNOWN]");
    }

    private static void namesAndFields() {
        TreeSet<String> open = new TreeSet<>();
        for (Method m : LastSentence.class.getDeclaredMethods()) {
            if (Modifier.isPublic(m.getModifiers())) open.add(m.getName());
        }
        List<Class<?>> classes = new ArrayList<>(List.of(LastSentence.class));
        classes.addAll(Arrays.asList(LastSentence.class.getDeclaredClasses()));
        check.due("at most twelve classes: " + classes, classes.size() <= 12 ? 1 : 0, 1);
        for (Class<?> c : classes) {
            int fields = 0;
            for (Field f : c.getDeclaredFields()) {
                boolean isStatic = Modifier.isStatic(f.getModifiers());
                check.due(f + ": static is final", isStatic && !Modifier.isFinal(f.getModifiers()) ? 1 : 0, 0);
                if (!isStatic) fields++;
            }
            check.due(c + " has at most twenty fields", fields <= 20 ? 1 : 0, 1);
            for (Method m : c.getDeclaredMethods()) {
                boolean ownName = c == LastSentence.class && Modifier.isPublic(m.getModifiers()) || !open.contains(m.getName());
                check.due(m + " bears no public one's name", ownName ? 1 : 0, 1);
                check.due(m + " takes at most seven", m.getParameterCount() <= 7 ? 1 : 0, 1);
            }
            if (c != LastSentence.class) {
                check.due(c + " is static", Modifier.isStatic(c.getModifiers()) ? 1 : 0, 1);
                check.due(c + " is not open", c.getModifiers() & (Modifier.PUBLIC | Modifier.PROTECTED), 0);
            }
        }
    }

    private static void source() throws IOException {
        String text = Files.readString(Path.of("src/main/java/LastSentence.java"));
        check.due("no letter above 127", text.chars().filter(c -> c > 127).count(), 0);
        String code = text.replaceAll("(?s)/\\*.*?\\*/", "").replaceAll("//[^\n]*", "");
        String[] barred = {"\\bthrow\\b", "\\btry\\b", "\\bcatch\\b", "\\bfinally\\b", "\\bthrows\\b", "\\bsynchronized\\b",
            "\\bassert\\b", "->", "::", "\\bpackage\\b", "Exact\\(", "\\bvolatile\\b", "\\bnative\\b", "\\bstatic\\s*\\{",
            "\\bvar\\b", "\\bhashCode\\b", "\\btoString\\b", "\\bObject\\b", "\\bSystem\\.(?!arraycopy)"};
        for (String word : barred) {
            check.due("the source has " + word, Pattern.compile(word).matcher(code).find() ? 1 : 0, 0);
        }
        Matcher imports = Pattern.compile("import ([^;]*);").matcher(code);
        while (imports.find()) {
            boolean listed = List.of("java.util.Arrays", "java.util.ArrayList", "java.util.List", "java.util.Iterator")
                .contains(imports.group(1));
            check.due("import of " + imports.group(1), listed ? 1 : 0, 1);
        }
        methodLengths(code);
    }

    private static void methodLengths(String code) {
        int begun = 0;
        int number = 0;
        for (String line : code.split("\n", -1)) {
            number++;
            boolean begins = line.matches(" {4}(?: {4})?\\S[^=]*\\) \\{");
            boolean ends = line.matches(" {4}(?: {4})?\\}");
            if (begins) begun = number;
            if (ends && begun > 0) {
                check.due("a method that begins in line " + begun + " is short", number - begun < 60 ? 1 : 0, 1);
                begun = 0;
            }
        }
    }
}
