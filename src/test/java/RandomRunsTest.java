import java.util.Random;

/** Runs of 512 calls by fixed seeds, each answer compared with the slow house's. */
public final class RandomRunsTest {
    private static final Check check = new Check("RandomRunsTest");
    private static final int RUNS = 1500;

    private final Random random;
    private final LastSentence x = new LastSentence();
    private final SlowHouse slow = new SlowHouse();
    private final StringBuilder told = new StringBuilder();
    private int calls = 0;

    private RandomRunsTest(long seed) {
        random = new Random(seed);
    }

    public static void main(String[] args) {
        for (int run = 0; run < RUNS && !check.isBad(); run++) {
            new RandomRunsTest(run).go(run);
        }
        check.end();
    }

    private void go(int run) {
        if (random.nextInt(8) == 0) {
            someCalls(20);
        }
        while (calls < 512) {
            tell(random.nextInt(4) == 0 ? spoiled(text()) : text());
            someCalls(random.nextInt(3) == 0 ? 40 : 512);
        }
        if (check.isBad()) {
            System.out.println("run " + run + ", behind the text " + told);
        }
    }

    private void tell(String text) {
        for (int i = 0; i < text.length() && calls < 500; i++) {
            due("feed", x.feed(text.charAt(i)), slow.feed(text.charAt(i)));
        }
        told.append(text).append('|');
        due("manor()", x.manor(), slow.manor());
        due("fault()", x.fault(), slow.fault());
    }

    private void due(String call, int got, int want) {
        calls++;
        check.due("call " + calls + ": " + call, got, want);
    }

    private int upTo(int most) {
        return random.nextInt(most + 1);
    }

    private String text() {
        boolean small = random.nextInt(3) == 0;
        int rooms = random.nextInt(20) == 0 ? 0 : 1 + upTo(5);
        int n = small ? 1 + upTo(3) : 1 + upTo(19);
        StringBuilder text = new StringBuilder(blank() + "n" + blank() + n + blank() + ";");
        int dark = upTo(3);
        for (int r = 0; r < rooms; r++) {
            text.append("r").append(upTo(3) < dark ? upTo(20) : Math.min(20, n)).append(";");
        }
        int thickest = upTo(9);
        for (int d = rooms < 2 ? 0 : upTo(8); d > 0; d--) {
            int a = random.nextInt(rooms);
            int b = (a + 1 + random.nextInt(rooms - 1)) % rooms;
            text.append("d").append(a).append(" ").append(b).append(" ").append(upTo(thickest)).append(";");
        }
        int loudest = upTo(19);
        for (int p = rooms == 0 ? 0 : upTo(6); p > 0; p--) {
            text.append("p").append(upTo(4)).append(" ").append(1 + upTo(loudest)).append(" ")
                .append(random.nextInt(rooms)).append(";").append(blank());
        }
        return text.toString();
    }

    private String blank() {
        return random.nextInt(6) == 0 ? " ".repeat(1 + upTo(2)) : "";
    }

    private String spoiled(String text) {
        StringBuilder spoiled = new StringBuilder(text);
        for (int i = 1 + upTo(2); i > 0; i--) {
            int at = upTo(spoiled.length());
            char letter = "nrdp;0123456789 x".charAt(random.nextInt(17));
            switch (upTo(4)) {
                case 0 -> spoiled.insert(at, letter);
                case 1 -> spoiled.setLength(at);
                case 2 -> spoiled.insert(at, text);
                case 3 -> spoiled.insert(at, (char) upTo(255));
                default -> {
                    if (at < spoiled.length()) spoiled.setCharAt(at, letter);
                }
            }
        }
        return spoiled.length() > 300 ? spoiled.substring(0, 300) : spoiled.toString();
    }

    /** Mostly a number below the bound, seldom one that is not. */
    private int below(int bound) {
        if (bound > 0 && random.nextInt(25) != 0) return random.nextInt(bound);
        return switch (upTo(5)) {
            case 0 -> -1;
            case 1 -> bound;
            case 2 -> Integer.MIN_VALUE;
            case 3 -> Integer.MAX_VALUE;
            case 4 -> random.nextInt();
            default -> upTo(40) - 10;
        };
    }

    private void someCalls(int most) {
        for (int i = 0; i < most && calls < 512 && !check.isBad(); i++) {
            switch (upTo(9)) {
                case 0, 1, 2, 3 -> deed();
                case 4, 5 -> tried();
                case 6 -> seen();
                case 7 -> image();
                default -> look();
            }
        }
    }

    private void deed() {
        int p = below(slow.told(3));
        int r = below(slow.told(1));
        int d = below(slow.told(2));
        switch (upTo(9)) {
            case 0, 1, 2 -> due("say(" + p + ")", x.say(p), slow.say(p));
            case 3, 4 -> due("go(" + p + ", " + d + ")", x.go(p, d), slow.go(p, d));
            case 5 -> {
                int n = random.nextInt(3) == 0 ? 1 + below(20) : 1;
                due("hour(" + n + ")", x.hour(n), slow.hour(n));
            }
            case 6 -> due("out(" + r + ")", x.out(r), slow.out(r));
            case 7 -> due("light(" + r + ")", x.light(r), slow.light(r));
            case 8 -> {
                int c = below(21);
                due("candle(" + r + ", " + c + ")", x.candle(r, c), slow.candle(r, c));
            }
            default -> {
                int n = 1 + below(20);
                if (random.nextBoolean()) due("drift(" + n + ")", x.drift(n), slow.drift(n));
                else due("undo(" + n + ")", x.undo(n), slow.undo(n));
            }
        }
    }

    private void tried() {
        int p = below(slow.told(3));
        int a = below(slow.told(1));
        int b = below(slow.told(1));
        int k = below(4);
        int set = below(1 << slow.told(1));
        int what = below(2);
        int n = below(61);
        int q = below(101);
        switch (upTo(5)) {
            case 0 -> due("wall(" + a + ", " + b + ")", x.wall(a, b), slow.wall(a, b));
            case 1 -> due("way(" + a + ", " + b + ")", x.way(a, b), slow.way(a, b));
            case 2, 3 -> due("fewest(" + p + ", " + set + ", " + what + ")", x.fewest(p, set, what), slow.fewest(p, set, what));
            case 4 -> due("reading(" + a + ", " + k + ")", x.reading(a, k), slow.reading(a, k));
            default -> due("quiet(" + n + ", " + q + ")", x.quiet(n, q), slow.quiet(n, q));
        }
    }

    private void seen() {
        int r = below(slow.told(1));
        int p = random.nextInt(4) == 0 ? -1 : below(slow.told(3));
        boolean heard = random.nextBoolean();
        switch (upTo(8)) {
            case 0, 1 -> due("see(" + r + ", " + heard + ")", x.see(r, heard), slow.see(r, heard));
            case 2 -> due("couldBe()", x.couldBe(), slow.couldBe());
            case 3 -> due("ask()", x.ask(), slow.ask());
            case 4, 5 -> due("write(" + r + ", " + p + ")", x.write(r, p), slow.write(r, p));
            case 6, 7 -> due("judge()", x.judge(), slow.judge());
            default -> due("tear()", x.tear(), slow.tear());
        }
    }

    private void image() {
        int i = below(2);
        int v = random.nextInt();
        switch (upTo(5)) {
            case 0 -> due("seed(" + v + ")", x.seed(v), slow.seed(v));
            case 1 -> due("keep(" + i + ")", x.keep(i), slow.keep(i));
            case 2 -> due("goBack(" + i + ")", x.goBack(i), slow.goBack(i));
            default -> look();
        }
    }

    private void look() {
        int what = below(14);
        int of = below(6);
        int r = below(slow.told(1));
        int d = below(slow.told(2));
        int p = below(slow.told(3));
        switch (upTo(6)) {
            case 0, 1 -> due("told(" + what + ")", x.told(what), slow.told(what));
            case 2, 3 -> due("room(" + r + ", " + of + ")", x.room(r, of), slow.room(r, of));
            case 4 -> due("door(" + d + ", " + of + ")", x.door(d, of), slow.door(d, of));
            default -> due("heir(" + p + ", " + of + ")", x.heir(p, of), slow.heir(p, of));
        }
    }
}
