/** Each boundary case that section 3 names for draws, what is undone, images, and promises 15, 16, 28 to 30. */
public final class UndoneBoundsTest {
    private static final Check check = new Check("UndoneBoundsTest");
    private static final int MAX = Integer.MAX_VALUE;

    public static void main(String[] args) {
        seedBounds();
        seedWraps();
        drawsOfFourAndOfHeirs();
        drawOfDoors();
        noHeirsNoDraw();
        noDoorsNoDraw();
        putOutByDraw();
        driftHourByHour();
        drawsOverMorning();
        undoneFrom1To30();
        thirtyAtMost();
        eachDeedIsOne();
        refusedIsNone();
        sinceTextOrImage();
        seedStays();
        allAsAhead();
        imagesZeroAndOne();
        imagesKeepTheSeed();
        imagesAreCopies();
        imagesGoneByText();
        imagesWithoutManor();
        check.end();
    }

    private static long next(long seed) {
        return (seed * 1103515245L + 12345L) % 2147483648L;
    }

    private static int draw(long seed, int n) {
        return (int) (seed / 65536 % n);
    }

    /** The first seed from a number on by which the first draws are so: of 4, of heirs, of doors (or -1: any). */
    private static int seedFor(int from, int act, int heir, int heirs, int door, int doors) {
        for (int v = from; v < from + 1000000; v++) {
            long first = next(v);
            long second = next(first);
            boolean fits = draw(first, 4) == act && draw(second, heirs) == heir;
            if (fits && (door < 0 || draw(next(second), doors) == door)) {
                return v;
            }
        }
        throw new IllegalStateException("no seed");
    }

    private static void seedBounds() {
        check.says("THE SEED becomes v (0 .. 2147483647): what it was. OUTSIDE.");
        LastSentence x = new LastSentence();
        check.due("seed(MAX)", x.seed(MAX), 0);
        check.due("seed(-1)", x.seed(-1), Check.OUTSIDE);
        check.due("seed(MIN)", x.seed(Integer.MIN_VALUE), Check.OUTSIDE);
        check.due("seed(0)", x.seed(0), MAX);
        check.due("seed(1)", x.seed(1), 0);
        check.due("seed(0)", x.seed(0), 1);
        check.due("told(13): no deed", x.told(13), 0);
    }

    private static void seedWraps() {
        check.says("(0 at first: each DRAW it becomes it times 1103515245 and 12345, left over by 2 to the 31;");
        LastSentence x = Check.house("n20;r20;p0 1 0;");
        x.drift(1);
        check.due("seed(MAX) after two draws from 0", x.seed(MAX), next(next(0)));
        x.drift(1);
        // from MAX on the draw of 4 is 1: two draws again
        check.due("seed(0) after two draws from MAX", x.seed(0), next(next(MAX)));
        for (int v : new int[] {0, 1, 65535, 65536, 1 << 30, MAX - 1, MAX}) {
            LastSentence y = Check.house("n20;r20;p0 1 0;");
            y.seed(v);
            y.drift(20);
            long due = v;
            for (int i = 0; i < 40; i++) {
                due = next(due);
            }
            check.due("seed(0) after forty draws from " + v, y.seed(0), due);
        }
    }

    private static final String THREE = "n20;r20;r20;r20;d0 1 9;d1 2 9;p0 1 0;p0 1 1;p0 1 2;";

    private static void drawsOfFourAndOfHeirs() {
        check.says("ahead of each, if there are HEIRS, a DRAW of 4, of HEIRS: on 0, 1 he SAYS something");
        for (int act = 0; act <= 1; act++) {
            for (int p = 0; p < 3; p++) {
                LastSentence x = Check.house(THREE);
                int v = seedFor(act * 1000, act, p, 3, -1, 2);
                x.seed(v);
                check.due("drift(1)", x.drift(1), 1);
                for (int r = 0; r < 3; r++) {
                    check.due("room(" + r + ", 3) when heir " + p + " says something", x.room(r, 3), r == p ? p : Check.NONE);
                }
                check.due("told(7)", x.told(7), 1);
                check.due("two draws", x.seed(0), next(next(v)));
            }
        }
    }

    private static void drawOfDoors() {
        check.says("on 2, if there are DOORS, a DRAW of these: he GOES by it, if he is at it");
        int[][] behind = {{1, 0}, {0, 2}, {2, 1}};
        for (int p = 0; p < 3; p++) {
            for (int d = 0; d < 2; d++) {
                LastSentence x = Check.house(THREE);
                int v = seedFor(0, 2, p, 3, d, 2);
                x.seed(v);
                x.drift(1);
                check.due("heir(" + p + ", 2) by door " + d, x.heir(p, 2), behind[p][d]);
                check.due("the others stay", x.heir((p + 1) % 3, 2), (p + 1) % 3);
                check.due("three draws", x.seed(0), next(next(next(v))));
                check.due("told(7)", x.told(7), 0);
                check.due("told(13): one deed", x.told(13), 1);
                check.due("undo(1)", x.undo(1), 0);
                check.due("heir(" + p + ", 2) undone", x.heir(p, 2), p);
            }
        }
    }

    private static void noHeirsNoDraw() {
        check.says("ahead of each, if there are HEIRS");
        LastSentence x = Check.house("n3;r3;r3;d0 1 1;");
        x.seed(5);
        check.due("drift(20)", x.drift(20), 2);
        check.due("told(6)", x.told(6), 6);
        check.due("seed(5): no draw", x.seed(5), 5);
        check.due("told(13)", x.told(13), 20);
        check.due("told(8)", x.told(8), 3);
    }

    private static void noDoorsNoDraw() {
        check.says("on 2, if there are DOORS");
        LastSentence x = Check.house("n20;r20;p0 1 0;");
        int v = seedFor(0, 2, 0, 1, -1, 1);
        x.seed(v);
        check.due("drift(1)", x.drift(1), 1);
        check.due("two draws", x.seed(0), next(next(v)));
        check.due("told(7)", x.told(7), 0);
        check.due("told(8)", x.told(8), 1);
        check.due("heir(0, 2)", x.heir(0, 2), 0);
    }

    private static void putOutByDraw() {
        check.says("on 3 the CANDLE of the ROOM where he is is put OUT; then the HOUR passes.");
        for (int p = 0; p < 3; p++) {
            LastSentence x = Check.house(THREE);
            int v = seedFor(0, 3, p, 3, -1, 2);
            x.seed(v);
            check.due("drift(1)", x.drift(1), 1);
            check.due("told(8)", x.told(8), 7 & ~(1 << p));
            check.due("two draws", x.seed(0), next(next(v)));
            x.seed(v);
            check.due("drift(1) when it is out already", x.drift(1), 2);
            check.due("told(8)", x.told(8), 7 & ~(1 << p));
            check.due("told(13)", x.told(13), 2);
        }
    }

    private static void driftHourByHour() {
        check.says("n HOURS BY DRAWS (1 .. 20): HOURS.");
        for (int n = 1; n <= 20; n++) {
            LastSentence x = Check.house(THREE);
            LastSentence y = Check.house(THREE);
            x.seed(n * 1000003);
            y.seed(n * 1000003);
            int hours = x.drift(n);
            for (int i = 1; i < n; i++) {
                y.drift(1);
            }
            check.due("drift(" + n + ")", hours, y.drift(1));
            check.same("at once or one by one", Check.lookThrough(x), Check.lookThrough(y));
        }
    }

    private static void drawsOverMorning() {
        check.says("ahead of each");
        // in a night of one hour each draw is made ahead of its own morning
        LastSentence x = Check.house("n1;r1;p0 1 0;p0 1 0;");
        long seed = 4711;
        x.seed((int) seed);
        int owner = Check.NONE;
        for (int i = 0; i < 60; i++) {
            x.drift(1);
            seed = next(seed);
            int act = draw(seed, 4);
            seed = next(seed);
            owner = act < 2 ? draw(seed, 2) : owner;
            check.due("room(0, 2)", x.room(0, 2), owner);
            check.due("room(0, 3)", x.room(0, 3), Check.NONE);
            check.due("room(0, 1)", x.room(0, 1), 0);
        }
    }

    private static void undoneFrom1To30() {
        check.says("The n latest (1 .. 30) are undone: HOURS. OUTSIDE, NOT: not so many.");
        for (int n = 1; n <= 30; n++) {
            LastSentence x = Check.house("n20;r20;");
            x.hour(20);
            x.hour(15);
            check.due("undo(" + n + ")", x.undo(n), Math.floorMod(15 - n, 20));
            check.due("told(6)", x.told(6), n > 15 ? 0 : 1);
            check.due("told(13)", x.told(13), 30 - n);
            check.due("undo(31)", x.undo(31), Check.OUTSIDE);
            check.due("undo(0)", x.undo(0), Check.OUTSIDE);
            if (n > 1) {
                check.due("one too many", x.undo(31 - n), Check.NOT);
            }
            if (n < 30) {
                check.due("all that is left", x.undo(30 - n), 5);
            }
            check.due("undo(1) of none", x.undo(1), Check.NOT);
        }
    }

    private static void thirtyAtMost() {
        check.says("(30 at most are kept)");
        LastSentence x = Check.house("n20;r0;");
        for (int i = 1; i <= 29; i++) {
            x.candle(0, i % 20);
            check.due("told(13)", x.told(13), i);
        }
        x.candle(0, 10);
        check.due("told(13) at thirty", x.told(13), 30);
        check.due("undo(30) to the very first", x.undo(30), 0);
        check.due("room(0, 0)", x.room(0, 0), 0);
        // over the bound, again and again: the oldest are forgotten
        for (int more = 1; more <= 95; more++) {
            LastSentence y = Check.house("n20;r0;");
            for (int i = 1; i <= 30 + more; i++) {
                y.candle(0, i % 21);
            }
            check.due("told(13)", y.told(13), 30);
            y.undo(30);
            check.due("room(0, 0) ahead of the thirty latest", y.room(0, 0), more % 21);
            check.due("told(13)", y.told(13), 0);
            check.due("undo(1)", y.undo(1), Check.NOT);
            y.candle(0, 7);
            check.due("told(13)", y.told(13), 1);
            y.undo(1);
            check.due("room(0, 0)", y.room(0, 0), more % 21);
        }
    }

    private static void eachDeedIsOne() {
        check.says("the latest deeds (say(), go(), each HOUR of hour(), out(), light(), candle(), each HOUR BY DRAWS)");
        LastSentence x = Check.house("n4;r4;r4;d0 1 1;p0 1 0;");
        x.say(0);
        check.due("told(13): say()", x.told(13), 1);
        x.say(0);
        check.due("told(13): say() that counts nowhere", x.told(13), 2);
        x.go(0, 0);
        check.due("told(13): go()", x.told(13), 3);
        x.hour(1);
        check.due("told(13): hour(1)", x.told(13), 4);
        x.hour(5);
        check.due("told(13): hour(5)", x.told(13), 9);
        x.out(0);
        check.due("told(13): out()", x.told(13), 10);
        x.light(0);
        check.due("told(13): light()", x.told(13), 11);
        x.candle(0, 4);
        check.due("told(13): candle() of what it was", x.told(13), 12);
        x.drift(1);
        check.due("told(13): drift(1)", x.told(13), 13);
        x.drift(6);
        check.due("told(13): drift(6)", x.told(13), 19);
        x.see(0, true);
        x.write(0, 0);
        x.tear();
        x.seed(5);
        x.feed('n');
        Check.look(x);
        check.due("told(13): nothing else", x.told(13), 19);
    }

    private static void refusedIsNone() {
        check.says("What is refused changes nothing.");
        LastSentence x = Check.house("n4;r4;r4;r4;d0 1 1;p0 1 2;");
        x.out(1);
        x.say(1);
        x.go(0, 0);
        x.go(0, 1);
        x.hour(0);
        x.hour(21);
        x.out(1);
        x.out(3);
        x.light(0);
        x.candle(0, 21);
        x.candle(3, 1);
        x.drift(0);
        x.drift(21);
        x.undo(2);
        x.undo(0);
        check.due("told(13)", x.told(13), 1);
        check.due("undo(1)", x.undo(1), 0);
        check.due("room(1, 1)", x.room(1, 1), 0);
    }

    private static void sinceTextOrImage() {
        check.says("since the text or IMAGE");
        LastSentence x = Check.house("n4;r4;p0 1 0;");
        x.hour(3);
        check.due("told(13)", x.told(13), 3);
        x.keep(0);
        check.due("told(13) behind keep()", x.told(13), 0);
        check.due("undo(1)", x.undo(1), Check.NOT);
        x.hour(2);
        x.goBack(0);
        check.due("told(13) behind goBack()", x.told(13), 0);
        check.due("undo(1)", x.undo(1), Check.NOT);
        x.say(0);
        check.due("told(13)", x.told(13), 1);
        check.due("undo(2)", x.undo(2), Check.NOT);
        check.due("undo(1)", x.undo(1), 3);
        x.hour(3);
        x.keep(2);
        x.goBack(1);
        x.goBack(-1);
        check.due("told(13): refused ones leave it", x.told(13), 3);
        Check.tell(x, "n4;r4;x");
        check.due("told(13): a text at fault leaves it", x.told(13), 3);
        Check.tell(x, "n4;r4;");
        check.due("told(13) behind manor()", x.told(13), 0);
        check.due("undo(1)", x.undo(1), Check.NOT);
        // the ring of what is kept begins anew, too
        x.hour(20);
        x.keep(0);
        x.hour(20);
        x.hour(3);
        check.due("told(13)", x.told(13), 23);
        check.due("undo(24)", x.undo(24), Check.NOT);
        check.due("undo(23)", x.undo(23), 0);
        check.due("told(6)", x.told(6), 5);
    }

    private static void seedStays() {
        check.says("all of section 2 is as ahead of them; THE SEED stays.");
        LastSentence x = Check.house(THREE);
        x.seed(99);
        x.drift(7);
        int seed = x.seed(0);
        x.seed(seed);
        x.undo(7);
        check.due("seed(5) undone", x.seed(5), seed);
        check.due("told(5)", x.told(5), 0);
        x.hour(1);
        x.undo(1);
        check.due("seed(6)", x.seed(6), 5);
    }

    private static String ofSectionTwo(LastSentence x) {
        StringBuilder seen = new StringBuilder();
        for (int what = 0; what <= 10; what++) {
            seen.append(x.told(what)).append(' ');
        }
        for (int r = 0; r < x.told(1); r++) {
            for (int what = 0; what <= 5; what++) {
                seen.append(x.room(r, what)).append(' ');
            }
            for (int k = 0; k <= 3; k++) {
                seen.append(x.reading(r, k)).append(' ');
            }
        }
        for (int p = 0; p < x.told(3); p++) {
            for (int what = 2; what <= 5; what++) {
                seen.append(x.heir(p, what)).append(' ');
            }
        }
        return seen.toString();
    }

    private static void allAsAhead() {
        check.says("all of section 2 is as ahead of them");
        LastSentence x = Check.house("n5;r5;r3;r0;d0 1 1;d1 2 1;p0 2 0;p2 2 1;p3 1 2;p4 1 0;p1 3 1;");
        x.seed(31);
        String[] ahead = new String[31];
        for (int i = 0; i < 30; i++) {
            ahead[i] = ofSectionTwo(x);
            switch (i % 10) {
                case 0 -> x.say(1);
                case 1 -> x.candle(1, 3 + i / 10);
                case 2 -> x.say(2);
                case 3 -> x.hour(1);
                case 4 -> check.due("go(4, 1)", x.go(4, 1) >= 0 ? 1 : 0, 1);
                case 5 -> check.due("out(0)", x.out(0) >= 0 ? 1 : 0, 1);
                case 6 -> check.due("light(0)", x.light(0) >= 0 ? 1 : 0, 1);
                case 7 -> x.say(4);
                case 8 -> x.say(3);
                default -> x.hour(1);
            }
        }
        for (int i = 29; i >= 0; i--) {
            x.undo(1);
            check.same("as ahead of deed " + i, ofSectionTwo(x), ahead[i]);
        }
    }

    private static void imagesZeroAndOne() {
        check.says("IMAGE i becomes what is so (nothing can be undone then): 1. UNKNOWN.");
        LastSentence x = Check.house("n9;r9;p0 1 0;");
        check.due("goBack(0) not kept", x.goBack(0), Check.NOT);
        check.due("goBack(1) not kept", x.goBack(1), Check.NOT);
        check.due("keep(-1)", x.keep(-1), Check.UNKNOWN);
        check.due("keep(2)", x.keep(2), Check.UNKNOWN);
        x.hour(1);
        check.due("keep(0)", x.keep(0), 1);
        check.due("goBack(1) not kept still", x.goBack(1), Check.NOT);
        x.hour(1);
        check.due("keep(1)", x.keep(1), 1);
        x.hour(1);
        check.due("goBack(0)", x.goBack(0), 1);
        check.due("told(5)", x.told(5), 1);
        check.due("goBack(1)", x.goBack(1), 1);
        check.due("told(5)", x.told(5), 2);
        check.due("goBack(1) again", x.goBack(1), 1);
        check.due("goBack(2)", x.goBack(2), Check.UNKNOWN);
        check.due("goBack(-1)", x.goBack(-1), Check.UNKNOWN);
        check.due("told(5)", x.told(5), 2);
    }

    private static void imagesKeepTheSeed() {
        check.says("IMAGES 0, 1 keep all of section 2, THE SEED.");
        LastSentence x = Check.house(THREE);
        x.seed(123);
        x.keep(0);
        x.seed(MAX);
        x.keep(1);
        x.seed(7);
        x.goBack(0);
        check.due("seed(9) of image 0", x.seed(9), 123);
        x.goBack(1);
        check.due("seed(9) of image 1", x.seed(9), MAX);
        x.goBack(0);
        x.drift(20);
        String first = Check.look(x);
        x.goBack(0);
        x.drift(20);
        check.same("the same draws again", Check.look(x), first);
    }

    private static void imagesAreCopies() {
        check.says("What is so becomes IMAGE i (nothing can be undone then): 1.");
        LastSentence x = Check.house("n5;r5;r3;d0 1 1;p0 2 0;p2 2 1;p3 1 1;");
        x.say(1);
        x.out(1);
        x.keep(0);
        String kept = ofSectionTwo(x);
        x.say(2);
        x.light(1);
        x.go(0, 0);
        x.candle(0, 1);
        x.hour(7);
        x.goBack(0);
        check.same("what was done behind keep() is not in it", ofSectionTwo(x), kept);
        x.say(2);
        x.light(1);
        x.go(0, 0);
        x.candle(0, 1);
        x.hour(7);
        x.goBack(0);
        check.same("what was done behind goBack() is not in it", ofSectionTwo(x), kept);
        x.hour(1);
        x.keep(0);
        x.hour(1);
        x.goBack(0);
        check.due("told(5): kept anew", x.told(5), 1);
    }

    private static void imagesGoneByText() {
        check.says("IMAGES, what could be undone are gone; THE SEED stays");
        LastSentence x = Check.house("n9;r9;");
        x.seed(50);
        x.keep(0);
        x.keep(1);
        x.seed(51);
        x.hour(1);
        Check.tell(x, "n9;r10 ;;");
        check.due("goBack(1) behind a text at fault", x.goBack(1), 1);
        x.seed(52);
        Check.tell(x, "n8;r8;");
        check.due("goBack(0) behind a text", x.goBack(0), Check.NOT);
        check.due("goBack(1) behind a text", x.goBack(1), Check.NOT);
        check.due("seed(1)", x.seed(1), 52);
        x.keep(0);
        check.due("manor() of no letters", x.manor(), 0);
        check.due("goBack(0) behind no letters", x.goBack(0), Check.NOT);
    }

    private static void imagesWithoutManor() {
        check.says("`LastSentence()`: No MANOR.");
        LastSentence x = new LastSentence();
        x.seed(11);
        check.due("keep(0)", x.keep(0), 1);
        x.seed(12);
        check.due("goBack(0)", x.goBack(0), 1);
        check.due("seed(0)", x.seed(0), 11);
        check.due("told(0)", x.told(0), 0);
        check.due("hour(1)", x.hour(1), Check.NOT);
        Check.tell(x, "n3;r3;");
        check.due("goBack(0) in a manor told since", x.goBack(0), Check.NOT);
        check.due("told(0)", x.told(0), 3);
    }
}
