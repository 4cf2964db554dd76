import java.io.IOException;
import java.nio.file.Files;
import java.nio.file.Path;
import java.util.ArrayList;
import java.util.List;
import java.util.function.IntSupplier;
import java.util.function.Supplier;
import java.util.function.ToIntFunction;

/** Counts answers that are due and those that are not, and ends a test program with its exit code. */
final class Check {
    static final int NONE = -1;
    static final int UNKNOWN = -1000000001;
    static final int OUTSIDE = -1000000002;
    static final int NOT = -1000000003;
    static final int FULL = -1000000004;

    private static final String DOCUMENT = document(Path.of("../shared/DOC.md"));

    private final String name;
    private String sentence = "";
    private int right = 0;
    private int wrong = 0;

    Check(String name) {
        this.name = name;
    }

    void due(String call, long got, long want) {
        if (got == want) {
            right++;
            return;
        }
        wrong++;
        if (wrong <= 40) {
            System.out.println(name + ": " + call + " answered " + got + ", due is " + want + sentence);
        }
    }

    void same(String what, String got, String want) {
        if (got.equals(want)) {
            right++;
            return;
        }
        wrong++;
        if (wrong <= 40) {
            System.out.println(name + ": " + what + "\n  is  " + got + "\n  due " + want + sentence);
        }
    }

    /** The sentence of the document that the next answers are due by: told with those that are wrong. */
    void says(String quoted) {
        sentence = "\n  by: " + quoted;
        if (!DOCUMENT.isEmpty() && !DOCUMENT.contains(quoted)) {
            System.out.println(name + ": remark: the document does not say (any more): " + quoted);
        }
    }

    private static String document(Path path) {
        try {
            return Files.isReadable(path) ? Files.readString(path).replaceAll("\\s+", " ") : "";
        } catch (IOException e) {
            return "";
        }
    }

    /** A call that must be refused so; behind it a house goes on as its twin does, which never had that call. */
    void refusedOf(Supplier<LastSentence> made, String call, ToIntFunction<LastSentence> doIt, int want) {
        LastSentence asked = made.get();
        due(call, doIt.applyAsInt(asked), want);
        same("all behind the refused " + call, lookThrough(asked), lookThrough(made.get()));
    }

    /** All that can be found out, also by changing it: what can be undone, IMAGES, THE SEED, THE TEXT. */
    static String lookThrough(LastSentence x) {
        StringBuilder seen = new StringBuilder(look(x));
        for (int i = x.told(13); i > 0; i--) {
            seen.append(x.undo(1)).append(look(x));
        }
        for (int i = 0; i < 2; i++) {
            seen.append(x.goBack(i)).append(look(x));
            seen.append(x.drift(20)).append(look(x));
        }
        seen.append(x.manor()).append(look(x));
        return seen.toString();
    }

    /** A call that must be refused in that way and change nothing that can be looked at. */
    void refused(LastSentence x, String call, IntSupplier doIt, int want) {
        String ahead = look(x);
        due(call, doIt.getAsInt(), want);
        same("after the refused " + call, look(x), ahead);
    }

    boolean isBad() {
        return wrong > 0;
    }

    void end() {
        System.out.println(name + ": " + right + " answers as due, " + wrong + " not");
        if (wrong > 0) {
            System.exit(1);
        }
    }

    static void feedAll(LastSentence x, String text) {
        for (int i = 0; i < text.length(); i++) {
            x.feed(text.charAt(i));
        }
    }

    static int tell(LastSentence x, String text) {
        feedAll(x, text);
        return x.manor();
    }

    static LastSentence house(String text) {
        LastSentence x = new LastSentence();
        int heirs = tell(x, text);
        if (heirs < 0) {
            throw new IllegalStateException("the test's own text is at fault: " + text + " " + heirs + " at " + x.fault());
        }
        return x;
    }

    /** Everything that can be looked at without changing it (THE SEED by putting it back). */
    static String look(LastSentence x) {
        List<Integer> seen = new ArrayList<>();
        for (int what = 0; what <= 13; what++) {
            seen.add(x.told(what));
        }
        for (int r = 0; r < x.told(1); r++) {
            for (int what = 0; what <= 5; what++) {
                seen.add(x.room(r, what));
            }
            for (int k = 0; k <= 3; k++) {
                seen.add(x.reading(r, k));
            }
        }
        for (int d = 0; d < x.told(2); d++) {
            for (int what = 0; what <= 2; what++) {
                seen.add(x.door(d, what));
            }
        }
        for (int p = 0; p < x.told(3); p++) {
            for (int what = 0; what <= 5; what++) {
                seen.add(x.heir(p, what));
            }
        }
        seen.add(x.couldBe());
        seen.add(x.ask());
        seen.add(x.judge());
        seen.add(x.fault());
        int seed = x.seed(0);
        x.seed(seed);
        seen.add(seed);
        return seen.toString();
    }
}
