/** Promises 9 to 16: say, go, hour, out, light, candle, drift, undo. */
public final class DeedsTest {
    private static final Check check = new Check("DeedsTest");

    public static void main(String[] args) {
        saidByKind();
        saidAsleep();
        saidByParrot();
        saidInTheDark();
        sayRefused();
        goes();
        hours();
        nightsEnd();
        tooManyNights();
        outAndLight();
        candles();
        drawn();
        driftRefused();
        undone();
        undoneByHours();
        undoKeepsThirty();
        check.end();
    }

    private static void saidByKind() {
        LastSentence x = Check.house("n4;r4;r4;r4;d0 1 2;d1 2 2;p0 3 1;p0 2 0;p2 5 2;p3 20 1;");
        check.due("say(1) in his room alone: the wall is no less than the voice", x.say(1), 1);
        check.due("room(0, 3)", x.room(0, 3), 1);
        check.due("room(1, 3)", x.room(1, 3), Check.NONE);
        check.due("say(0) in all", x.say(0), 7);
        check.due("room(0, 3)", x.room(0, 3), 0);
        check.due("say(0) again", x.say(0), 0);
        check.due("say(2) taught: the word of heir 0 already", x.say(2), 0);
        check.due("say(3) writes here alone", x.say(3), 2);
        check.due("room(1, 3)", x.room(1, 3), 3);
        check.due("say(2) taught", x.say(2), 2);
        check.due("room(1, 3)", x.room(1, 3), 0);
        check.due("told(7) each time", x.told(7), 6);
        check.due("told(13)", x.told(13), 6);
    }

    private static void saidAsleep() {
        LastSentence x = Check.house("n5;r5;r5;d0 1 1;p1 2 0;");
        check.due("say(0) at 0", x.say(0), 0);
        x.hour(1);
        check.due("say(0) at 1", x.say(0), 0);
        check.due("heir(0, 4) at 1", x.heir(0, 4), 0);
        x.hour(1);
        check.due("heir(0, 4) at 2", x.heir(0, 4), 3);
        check.due("say(0) at 2", x.say(0), 3);
        check.due("told(7)", x.told(7), 3);
        LastSentence y = Check.house("n1;r1;p1 1 0;");
        check.due("say(0) in a night of one hour", y.say(0), 1);
    }

    private static void saidByParrot() {
        LastSentence x = Check.house("n4;r2;r4;d0 1 0;p4 20 0;p0 1 1;p3 1 0;");
        check.due("say(0) no word yet", x.say(0), 0);
        check.due("say(1) through an open door", x.say(1), 3);
        check.due("say(0) here alone", x.say(0), 1);
        check.due("room(0, 3)", x.room(0, 3), 0);
        check.due("room(1, 3)", x.room(1, 3), 1);
        check.due("say(0) its own already", x.say(0), 0);
        x.hour(2);
        check.due("say(2)", x.say(2), 1);
        check.due("say(0) in the dark", x.say(0), 0);
        x.candle(0, 4);
        x.out(0);
        check.due("say(0) its candle put out", x.say(0), 0);
        x.light(0);
        check.due("say(0) lit again", x.say(0), 1);
        x.hour(2);
        check.due("room(0, 2)", x.room(0, 2), 0);
        check.due("say(0) no word this night", x.say(0), 0);
    }

    private static void saidInTheDark() {
        LastSentence x = Check.house("n4;r1;r4;r0;d0 1 1;d1 2 1;p0 9 0;p3 9 2;");
        check.due("say(0)", x.say(0), 3);
        check.due("say(1)", x.say(1), 4);
        x.hour(1);
        x.out(1);
        check.due("say(0) nothing lit", x.say(0), 0);
        check.due("room(0, 3) stays", x.room(0, 3), 0);
        x.light(1);
        x.go(1, 1);
        check.due("say(1) in room 1", x.say(1), 2);
        check.due("say(0) there alone", x.say(0), 2);
    }

    private static void sayRefused() {
        LastSentence x = Check.house("n4;r4;p0 1 0;p0 1 0;");
        x.say(1);
        for (int p : new int[] {-1, 2, 6, Integer.MIN_VALUE, Integer.MAX_VALUE}) {
            check.refused(x, "say(" + p + ")", () -> x.say(p), Check.UNKNOWN);
        }
        // no run of 512 calls comes so far; the refusal stands all the same
        for (int i = 1; i < 90000; i++) {
            x.say(0);
        }
        check.due("told(7)", x.told(7), 90000);
        check.refused(x, "say(0) at 90000", () -> x.say(0), Check.FULL);
        check.refused(x, "say(2) at 90000", () -> x.say(2), Check.UNKNOWN);
        x.undo(1);
        check.due("say(0) at 89999", x.say(0), 0);
    }

    private static void goes() {
        LastSentence x = Check.house("n4;r4;r4;r4;d0 1 2;d2 1 9;p0 1 0;p4 1 1;");
        check.due("go(0, 0)", x.go(0, 0), 1);
        check.due("go(0, 0) back", x.go(0, 0), 0);
        check.refused(x, "go(0, 1)", () -> x.go(0, 1), Check.NOT);
        check.due("go(0, 0)", x.go(0, 0), 1);
        check.due("go(0, 1)", x.go(0, 1), 2);
        check.due("heir(0, 2)", x.heir(0, 2), 2);
        check.due("heir(0, 3)", x.heir(0, 3), 4);
        check.due("go(1, 1)", x.go(1, 1), 2);
        check.refused(x, "go(2, 0)", () -> x.go(2, 0), Check.UNKNOWN);
        check.refused(x, "go(-1, 0)", () -> x.go(-1, 0), Check.UNKNOWN);
        check.refused(x, "go(0, 2)", () -> x.go(0, 2), Check.UNKNOWN);
        check.refused(x, "go(0, -1)", () -> x.go(0, -1), Check.UNKNOWN);
        check.due("told(13)", x.told(13), 5);
        x.hour(4);
        check.due("heir(0, 2) stays there", x.heir(0, 2), 2);
    }

    private static void hours() {
        LastSentence x = Check.house("n7;r3;");
        check.due("hour(1)", x.hour(1), 1);
        check.due("hour(5)", x.hour(5), 6);
        check.due("told(6)", x.told(6), 0);
        check.due("hour(1)", x.hour(1), 0);
        check.due("told(6)", x.told(6), 1);
        check.due("hour(20)", x.hour(20), 6);
        check.due("told(6)", x.told(6), 3);
        check.refused(x, "hour(0)", () -> x.hour(0), Check.OUTSIDE);
        check.refused(x, "hour(21)", () -> x.hour(21), Check.OUTSIDE);
        check.refused(x, "hour(-1)", () -> x.hour(-1), Check.OUTSIDE);
        check.refused(x, "hour(MIN)", () -> x.hour(Integer.MIN_VALUE), Check.OUTSIDE);
    }

    private static void nightsEnd() {
        LastSentence x = Check.house("n3;r3;r3;r0;p0 1 0;p0 1 1;");
        x.say(0);
        x.say(1);
        x.out(0);
        x.out(1);
        x.hour(2);
        check.due("room(0, 2) not yet", x.room(0, 2), Check.NONE);
        check.due("room(0, 1)", x.room(0, 1), 1);
        x.hour(1);
        check.due("room(0, 2)", x.room(0, 2), 0);
        check.due("room(1, 2)", x.room(1, 2), 1);
        check.due("room(2, 2)", x.room(2, 2), Check.NONE);
        check.due("room(0, 3)", x.room(0, 3), Check.NONE);
        check.due("room(0, 1)", x.room(0, 1), 0);
        check.due("told(8)", x.told(8), 3);
        x.hour(3);
        check.due("room(0, 2) a quiet night", x.room(0, 2), 0);
        check.due("told(6)", x.told(6), 2);
        x.hour(1);
        x.hour(2);
        check.due("told(6)", x.told(6), 3);
    }

    private static void tooManyNights() {
        LastSentence x = Check.house("n1;r1;p0 1 0;");
        for (int i = 0; i < 450; i++) {
            x.hour(20);
        }
        check.due("told(6)", x.told(6), 9000);
        check.due("hour(1) at 9000", x.hour(1), 0);
        check.due("told(6)", x.told(6), 9001);
        check.refused(x, "hour(1) above 9000", () -> x.hour(1), Check.FULL);
        check.refused(x, "drift(1) above 9000", () -> x.drift(1), Check.FULL);
        check.refused(x, "hour(0) above 9000", () -> x.hour(0), Check.OUTSIDE);
        check.refused(x, "drift(0) above 9000", () -> x.drift(0), Check.OUTSIDE);
        check.due("undo(1)", x.undo(1), 0);
        check.due("drift(20) at 9000", x.drift(20), 0);
        check.due("told(6)", x.told(6), 9020);
    }

    private static void outAndLight() {
        LastSentence x = Check.house("n4;r2;r0;p0 1 0;");
        check.refused(x, "light(0)", () -> x.light(0), Check.NOT);
        check.due("out(0)", x.out(0), 1);
        check.due("told(8)", x.told(8), 0);
        check.refused(x, "out(0)", () -> x.out(0), Check.NOT);
        check.due("light(0)", x.light(0), 1);
        check.due("told(8)", x.told(8), 1);
        check.due("out(1) not lit", x.out(1), 0);
        check.due("room(1, 1)", x.room(1, 1), 1);
        check.due("light(1) too short", x.light(1), 0);
        check.due("room(1, 1)", x.room(1, 1), 0);
        x.hour(1);
        check.due("out(0) at 1", x.out(0), 1);
        x.hour(1);
        check.due("light(0) at 2", x.light(0), 0);
        check.due("out(0) at 2", x.out(0), 0);
        check.refused(x, "out(2)", () -> x.out(2), Check.UNKNOWN);
        check.refused(x, "out(-1)", () -> x.out(-1), Check.UNKNOWN);
        check.refused(x, "light(2)", () -> x.light(2), Check.UNKNOWN);
        check.refused(x, "light(-1)", () -> x.light(-1), Check.UNKNOWN);
        check.due("told(13)", x.told(13), 9);
    }

    private static void candles() {
        LastSentence x = Check.house("n4;r2;r1;p0 1 0;");
        check.due("candle(0, 20)", x.candle(0, 20), 2);
        check.due("candle(0, 0)", x.candle(0, 0), 20);
        check.due("told(8)", x.told(8), 2);
        check.due("candle(1, 3)", x.candle(1, 3), 1);
        x.hour(2);
        check.due("told(8)", x.told(8), 2);
        check.due("candle(0, 3)", x.candle(0, 3), 0);
        check.due("told(8)", x.told(8), 3);
        x.hour(2);
        check.due("room(0, 0) the next night too", x.room(0, 0), 3);
        x.out(0);
        x.candle(0, 4);
        check.due("room(0, 1) another one, out all the same", x.room(0, 1), 1);
        check.refused(x, "candle(0, -1)", () -> x.candle(0, -1), Check.OUTSIDE);
        check.refused(x, "candle(0, 21)", () -> x.candle(0, 21), Check.OUTSIDE);
        check.refused(x, "candle(2, 1)", () -> x.candle(2, 1), Check.UNKNOWN);
        check.refused(x, "candle(2, 21)", () -> x.candle(2, 21), Check.UNKNOWN);
        check.refused(x, "candle(-1, 1)", () -> x.candle(-1, 1), Check.UNKNOWN);
    }

    /** The same hours by hand, with the draws of the document made here. */
    private static void drawn() {
        String text = "n9;r9;r6;r9;d0 1 1;d1 2 3;d0 2 2;p0 3 0;p1 2 1;p2 4 2;p4 1 0;p3 1 1;";
        LastSentence x = Check.house(text);
        LastSentence y = Check.house(text);
        long seed = 20261117;
        x.seed((int) seed);
        for (int i = 0; i < 200; i++) {
            check.due("drift(1)", x.drift(1), (i + 1) % 9);
            seed = next(seed);
            int act = (int) (seed / 65536 % 4);
            seed = next(seed);
            int p = (int) (seed / 65536 % 5);
            if (act == 2) {
                seed = next(seed);
                y.go(p, (int) (seed / 65536 % 3));
            } else if (act == 3) {
                y.out(y.heir(p, 2));
            } else {
                y.say(p);
            }
            y.hour(1);
            check.same("by hand", ofNight(x), ofNight(y));
            check.due("told(13)", x.told(13), Math.min(i + 1, 30));
        }
        check.due("seed(0)", x.seed(0), seed);
        LastSentence nobody = Check.house("n3;r3;r3;d0 1 1;");
        nobody.seed(5);
        check.due("drift(4) without heirs", nobody.drift(4), 1);
        check.due("no draw was made", nobody.seed(5), 5);
        LastSentence noDoor = Check.house("n20;r20;p0 1 0;");
        int made = 0;
        seed = 0;
        for (int i = 0; i < 40; i++) {
            noDoor.drift(1);
            seed = next(seed);
            made += seed / 65536 % 4 < 2 ? 1 : 0;
            seed = next(seed);
        }
        check.due("two draws an hour without doors", noDoor.seed(0), seed);
        check.due("told(7)", noDoor.told(7), made);
    }

    private static long next(long seed) {
        return (seed * 1103515245L + 12345L) % 2147483648L;
    }

    private static String ofNight(LastSentence x) {
        StringBuilder seen = new StringBuilder();
        for (int what = 0; what <= 10; what++) {
            seen.append(x.told(what)).append(' ');
        }
        for (int r = 0; r < x.told(1); r++) {
            for (int what = 0; what <= 5; what++) {
                seen.append(x.room(r, what)).append(' ');
            }
            for (int k = 0; k <= 3; k++) {
                seen.append(x.reading(r, k)).append(' ');
            }
        }
        for (int p = 0; p < x.told(3); p++) {
            seen.append(x.heir(p, 2)).append(' ');
        }
        return seen.toString();
    }

    private static void driftRefused() {
        LastSentence x = Check.house("n4;r4;p0 1 0;");
        x.seed(3);
        check.refused(x, "drift(0)", () -> x.drift(0), Check.OUTSIDE);
        check.refused(x, "drift(21)", () -> x.drift(21), Check.OUTSIDE);
        check.refused(x, "drift(-5)", () -> x.drift(-5), Check.OUTSIDE);
    }

    private static void undone() {
        LastSentence x = Check.house("n4;r4;r1;d0 1 0;p0 1 0;p0 1 1;p3 1 1;");
        x.seed(42);
        String[] looks = new String[9];
        looks[0] = ofNight(x);
        x.say(0);
        looks[1] = ofNight(x);
        x.go(0, 0);
        looks[2] = ofNight(x);
        x.out(0);
        looks[3] = ofNight(x);
        x.hour(1);
        looks[4] = ofNight(x);
        x.say(2);
        looks[5] = ofNight(x);
        x.candle(1, 9);
        looks[6] = ofNight(x);
        x.light(0);
        looks[7] = ofNight(x);
        x.drift(1);
        int seed = x.seed(1);
        x.seed(seed);
        check.due("told(13)", x.told(13), 8);
        for (int i = 7; i >= 0; i--) {
            x.undo(1);
            check.same("undone to " + i, ofNight(x), looks[i]);
            check.due("told(13)", x.told(13), i);
        }
        check.due("the seed stays", x.seed(0), seed);
        check.refused(x, "undo(1)", () -> x.undo(1), Check.NOT);
        x.say(0);
        x.go(0, 0);
        x.out(0);
        check.refused(x, "undo(4)", () -> x.undo(4), Check.NOT);
        check.refused(x, "undo(0)", () -> x.undo(0), Check.OUTSIDE);
        check.refused(x, "undo(31)", () -> x.undo(31), Check.OUTSIDE);
        check.refused(x, "undo(-1)", () -> x.undo(-1), Check.OUTSIDE);
        check.due("undo(2)", x.undo(2), 0);
        check.same("undone by two", ofNight(x), looks[1]);
        x.see(0, true);
        x.write(0, 1);
        x.undo(1);
        check.due("told(11): what is seen stays", x.told(11), 1);
        check.due("told(12): the book stays", x.told(12), 1);
    }

    private static void undoneByHours() {
        LastSentence x = Check.house("n4;r4;p0 1 0;");
        x.say(0);
        x.hour(6);
        check.due("told(13)", x.told(13), 7);
        check.due("undo(3) to the night ahead", x.undo(3), 3);
        check.due("told(6)", x.told(6), 0);
        check.due("room(0, 2)", x.room(0, 2), Check.NONE);
        check.due("room(0, 3)", x.room(0, 3), 0);
        check.due("undo(4)", x.undo(4), 0);
        check.due("room(0, 3)", x.room(0, 3), Check.NONE);
        check.due("told(7)", x.told(7), 0);
        x.drift(5);
        check.due("told(13)", x.told(13), 5);
        check.due("undo(5)", x.undo(5), 0);
    }

    private static void undoKeepsThirty() {
        LastSentence x = Check.house("n20;r20;p0 1 0;");
        x.hour(19);
        x.hour(18);
        check.due("told(13)", x.told(13), 30);
        check.due("undo(30)", x.undo(30), 7);
        check.due("told(6)", x.told(6), 0);
        check.due("told(13)", x.told(13), 0);
        check.due("undo(1)", x.undo(1), Check.NOT);
        x.hour(20);
        x.hour(20);
        check.due("undo(12)", x.undo(12), 15);
        x.hour(3);
        check.due("told(13)", x.told(13), 21);
        check.due("undo(21)", x.undo(21), 17);
    }
}
