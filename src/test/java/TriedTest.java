/** Promises 17 to 21: wall, way, fewest, reading, quiet. */
public final class TriedTest {
    private static final Check check = new Check("TriedTest");

    public static void main(String[] args) {
        wallsAndWays();
        fewestByKind();
        fewestByCandles();
        fewestByWalking();
        latestHours();
        fewestNeededNone();
        fewestRefused();
        readings();
        readingsOfParrots();
        readingsOverNights();
        sureRooms();
        quietNights();
        check.end();
    }

    private static void wallsAndWays() {
        LastSentence x = Check.house("n1;r1;r1;r1;r1;r1;r1;d0 1 9;d1 2 1;d0 2 1;d2 3 9;d0 3 9;d3 1 0;d3 1 5;");
        int[][] walls = {{0, 2, 1, 2}, {2, 0, 1, 0}, {1, 1, 0, 1}, {2, 0, 1, 0}};
        int[][] ways = {{0, 1, 1, 1}, {1, 0, 1, 1}, {1, 1, 0, 1}, {1, 1, 1, 0}};
        for (int a = 0; a < 4; a++) {
            for (int b = 0; b < 4; b++) {
                check.due("wall(" + a + ", " + b + ")", x.wall(a, b), walls[a][b]);
                check.due("way(" + a + ", " + b + ")", x.way(a, b), ways[a][b]);
            }
            check.due("wall(" + a + ", 4)", x.wall(a, 4), 99);
            check.due("way(4, " + a + ")", x.way(4, a), Check.NONE);
        }
        check.due("wall(5, 5)", x.wall(5, 5), 0);
        check.due("way(5, 5)", x.way(5, 5), 0);
        check.due("wall(4, 5)", x.wall(4, 5), 99);
        for (int r : new int[] {-1, 6, Integer.MIN_VALUE, Integer.MAX_VALUE}) {
            check.refused(x, "wall(" + r + ", 0)", () -> x.wall(r, 0), Check.UNKNOWN);
            check.refused(x, "wall(0, " + r + ")", () -> x.wall(0, r), Check.UNKNOWN);
            check.refused(x, "way(" + r + ", 0)", () -> x.way(r, 0), Check.UNKNOWN);
            check.refused(x, "way(0, " + r + ")", () -> x.way(0, r), Check.UNKNOWN);
        }
        LastSentence star = Check.house("n1;r1;r1;r1;r1;d0 1 1;d2 0 2;d0 3 4;d2 3 9;");
        check.due("wall(1, 2) by room 0", star.wall(1, 2), 3);
        check.due("wall(3, 2) by room 0", star.wall(3, 2), 6);
        check.due("way(3, 2)", star.way(3, 2), 1);
        check.due("way(1, 3)", star.way(1, 3), 2);
        LastSentence row = Check.house("n1;r1;r1;r1;r1;r1;r1;d0 1 9;d1 2 9;d2 3 9;d3 4 9;d4 5 9;");
        check.due("the longest wall", row.wall(5, 0), 45);
        check.due("the longest way", row.way(0, 5), 5);
    }

    private static void fewest(LastSentence x, int p, int set, int sayings, int latest) {
        check.due("fewest(" + p + ", " + set + ", 0)", x.fewest(p, set, 0), sayings);
        check.due("fewest(" + p + ", " + set + ", 1)", x.fewest(p, set, 1), latest);
    }

    private static void fewestByKind() {
        LastSentence x = Check.house("n6;r6;r6;d0 1 3;p0 3 0;p0 4 1;p1 1 0;p2 4 0;p3 9 0;p4 9 0;");
        fewest(x, 0, 1, 1, 5);
        fewest(x, 0, 2, 1, 5);
        fewest(x, 0, 3, 2, 4);
        fewest(x, 1, 3, 1, 5);
        fewest(x, 2, 3, 2, 4);
        fewest(x, 3, 3, 1, 5);
        fewest(x, 4, 3, 2, 4);
        fewest(x, 5, 1, Check.NONE, Check.NONE);
        x.say(1);
        fewest(x, 5, 3, 2, 4);
        fewest(x, 5, 2, 1, 5);
        fewest(x, 3, 3, 1, 5);
        x.say(0);
        fewest(x, 3, 1, 0, Check.NONE);
        fewest(x, 3, 3, 1, 5);
    }

    private static void fewestByCandles() {
        LastSentence x = Check.house("n6;r2;r4;d0 1 3;p0 1 0;p3 1 0;p1 1 0;");
        fewest(x, 0, 1, 1, 1);
        fewest(x, 0, 2, 1, 3);
        fewest(x, 0, 3, 2, 1);
        fewest(x, 1, 3, 2, 4);
        fewest(x, 2, 1, Check.NONE, Check.NONE);
        fewest(x, 2, 2, 1, 3);
        x.out(1);
        fewest(x, 0, 2, Check.NONE, Check.NONE);
        fewest(x, 1, 2, 1, 5);
        x.light(1);
        x.hour(2);
        fewest(x, 0, 1, Check.NONE, Check.NONE);
        fewest(x, 0, 2, 1, 3);
        x.hour(1);
        fewest(x, 0, 2, Check.NONE, Check.NONE);
        x.candle(1, 5);
        fewest(x, 0, 2, 1, 4);
    }

    private static void fewestByWalking() {
        LastSentence row = Check.house("n6;r6;r6;r6;r6;r6;r6;d0 1 9;d1 2 9;d2 3 9;d3 4 9;d4 5 9;p0 1 0;p0 10 2;p0 1 5;");
        fewest(row, 0, 63, 6, 0);
        fewest(row, 0, 33, 2, 0);
        fewest(row, 0, 32, 1, 5);
        fewest(row, 0, 62, 5, 1);
        fewest(row, 1, 63, 2, 2);
        fewest(row, 1, 14, 1, 5);
        fewest(row, 1, 33, 2, 2);
        row.hour(1);
        fewest(row, 0, 63, Check.NONE, Check.NONE);
        fewest(row, 0, 32, Check.NONE, Check.NONE);
        fewest(row, 0, 16, 1, 5);
        fewest(row, 2, 62, 5, 1);
        // two neighbours of one room: staying, going on and going back are all open
        LastSentence fork = Check.house("n4;r4;r4;r4;d0 1 9;d0 2 9;p0 1 1;");
        fewest(fork, 0, 7, 3, 1);
        fewest(fork, 0, 6, 2, 1);
        fewest(fork, 0, 3, 2, 2);
        fewest(fork, 0, 5, 2, 2);
        LastSentence apart = Check.house("n6;r6;r6;p0 20 0;");
        fewest(apart, 0, 1, 1, 5);
        fewest(apart, 0, 3, Check.NONE, Check.NONE);
        // in the last hour he says something first, so what he goes to is not reached
        LastSentence late = Check.house("n2;r2;r2;d0 1 5;p0 1 0;");
        fewest(late, 0, 2, 1, 1);
        late.hour(1);
        fewest(late, 0, 2, Check.NONE, Check.NONE);
        fewest(late, 0, 1, 1, 1);
    }

    private static void latestHours() {
        // two sayings, but the far room is dark soon: the one there has to come first
        LastSentence x = Check.house("n9;r9;r3;d0 1 9;p0 1 0;");
        fewest(x, 0, 3, 2, 2);
        // a silent walk to the middle, from which all is heard, in time for the short candle
        LastSentence y = Check.house("n9;r2;r9;r9;d0 1 1;d1 2 1;p0 2 0;");
        fewest(y, 0, 7, 1, 1);
        fewest(y, 0, 6, 1, 8);
        fewest(y, 0, 3, 1, 1);
        // three sayings in the rooms themselves could begin at 5, but two are the fewest: one in room 3 for 0 and 1
        LastSentence z = Check.house("n8;r8;r8;r8;r8;r8;r8;d0 1 9;d1 2 9;d0 2 9;d3 4 1;d4 1 1;d3 5 1;d5 0 1;p0 3 0;");
        fewest(z, 0, 7, 2, 4);
        fewest(z, 0, 3, 1, 7);
    }

    private static void fewestNeededNone() {
        LastSentence x = Check.house("n4;r4;r4;r4;d0 1 9;p0 1 0;p2 1 1;p0 1 2;");
        fewest(x, 0, 0, 0, Check.NONE);
        x.say(0);
        x.hour(4);
        fewest(x, 0, 1, 0, Check.NONE);
        fewest(x, 1, 1, 0, Check.NONE);
        fewest(x, 0, 3, 1, 3);
        fewest(x, 1, 3, 1, 3);
        fewest(x, 2, 1, Check.NONE, Check.NONE);
        fewest(x, 2, 4, 1, 3);
        x.say(1);
        fewest(x, 0, 3, 0, Check.NONE);
        String ahead = Check.look(x);
        x.fewest(0, 7, 0);
        check.same("nothing changes by what is tried", Check.look(x), ahead);
    }

    private static void fewestRefused() {
        LastSentence x = Check.house("n4;r4;r4;p0 1 0;");
        check.refused(x, "fewest(1, 1, 0)", () -> x.fewest(1, 1, 0), Check.UNKNOWN);
        check.refused(x, "fewest(-1, 1, 0)", () -> x.fewest(-1, 1, 0), Check.UNKNOWN);
        check.refused(x, "fewest(0, 4, 0)", () -> x.fewest(0, 4, 0), Check.UNKNOWN);
        check.refused(x, "fewest(0, -1, 0)", () -> x.fewest(0, -1, 0), Check.UNKNOWN);
        check.refused(x, "fewest(0, MIN, 0)", () -> x.fewest(0, Integer.MIN_VALUE, 0), Check.UNKNOWN);
        check.refused(x, "fewest(0, MAX, 5)", () -> x.fewest(0, Integer.MAX_VALUE, 5), Check.UNKNOWN);
        check.refused(x, "fewest(0, 3, 2)", () -> x.fewest(0, 3, 2), Check.OUTSIDE);
        check.refused(x, "fewest(0, 3, -1)", () -> x.fewest(0, 3, -1), Check.OUTSIDE);
    }

    private static void readingsAre(LastSentence x, int r, int... due) {
        for (int k = 0; k < 4; k++) {
            check.due("reading(" + r + ", " + k + ")", x.reading(r, k), due[k]);
        }
    }

    private static void readings() {
        LastSentence x = Check.house("n4;r4;r4;d0 1 0;p0 1 0;p0 1 1;p2 1 0;p3 1 1;p1 1 0;");
        readingsAre(x, 0, -1, -1, -1, -1);
        x.say(0);
        readingsAre(x, 0, 0, 0, -1, 0);
        readingsAre(x, 1, 0, -1, -1, 0);
        x.say(1);
        readingsAre(x, 0, 1, 0, -1, 1);
        readingsAre(x, 1, 1, 1, -1, 1);
        x.say(2);
        readingsAre(x, 0, 0, 0, -1, 2);
        readingsAre(x, 1, 0, 1, -1, 2);
        x.hour(1);
        x.say(3);
        readingsAre(x, 1, 3, 3, -1, 3);
        x.say(4);
        readingsAre(x, 0, 0, 0, -1, 2);
        x.hour(1);
        x.say(4);
        readingsAre(x, 0, 4, 4, 4, 4);
        readingsAre(x, 1, 4, 3, 4, 4);
        x.go(2, 0);
        x.say(2);
        readingsAre(x, 0, 0, 4, 0, 2);
        readingsAre(x, 1, 0, 0, 0, 2);
        check.refused(x, "reading(2, 0)", () -> x.reading(2, 0), Check.UNKNOWN);
        check.refused(x, "reading(-1, 9)", () -> x.reading(-1, 9), Check.UNKNOWN);
        check.refused(x, "reading(0, 4)", () -> x.reading(0, 4), Check.OUTSIDE);
        check.refused(x, "reading(0, -1)", () -> x.reading(0, -1), Check.OUTSIDE);
    }

    /** Had it been so all night, a word that does not count is none for the parrot to come behind. */
    private static void readingsOfParrots() {
        LastSentence x = Check.house("n4;r4;r4;d0 1 0;p4 1 0;p0 1 1;p3 1 0;");
        x.say(1);
        x.say(0);
        readingsAre(x, 0, 0, -1, -1, 0);
        x.hour(2);
        x.say(0);
        readingsAre(x, 0, 0, -1, -1, 0);
        x.say(1);
        x.say(0);
        readingsAre(x, 0, 0, -1, 0, 0);
        x.say(2);
        x.say(0);
        readingsAre(x, 0, 0, 0, 0, 0);
    }

    private static void readingsOverNights() {
        LastSentence x = Check.house("n4;r4;r4;d0 1 0;p0 1 0;p0 1 1;p2 1 0;");
        x.hour(3);
        x.say(1);
        x.hour(1);
        readingsAre(x, 0, 1, 1, 1, 1);
        x.say(2);
        readingsAre(x, 0, 0, 0, 1, 2);
        readingsAre(x, 1, 0, 1, 1, 2);
        x.undo(1);
        readingsAre(x, 0, 1, 1, 1, 1);
        x.say(2);
        x.hour(4);
        readingsAre(x, 0, 0, 0, 0, 0);
        readingsAre(x, 1, 0, 0, 0, 0);
        LastSentence one = Check.house("n1;r1;p0 1 0;");
        one.say(0);
        readingsAre(one, 0, 0, 0, 0, 0);
    }

    private static void sureRooms() {
        LastSentence x = Check.house("n2;r2;r2;r2;d0 1 0;p0 1 0;p2 1 2;");
        check.due("told(9) nobody's is not sure", x.told(9), 0);
        x.hour(1);
        x.say(0);
        check.due("told(9) through a door", x.told(9), 1);
        x.go(0, 0);
        x.say(0);
        check.due("told(9) by all four", x.told(9), 3);
        x.say(1);
        check.due("told(9) a taught one's", x.told(9), 3);
        x.hour(1);
        check.due("told(9) belonging", x.told(9), 7);
        x.say(1);
        check.due("told(9) the taught for himself by one", x.told(9), 3);
    }

    private static void quietNights() {
        LastSentence x = new LastSentence();
        check.due("quiet(0, 0)", x.quiet(0, 0), 1000000000);
        check.due("quiet(0, 100)", x.quiet(0, 100), 1000000000);
        check.due("quiet(60, 100)", x.quiet(60, 100), 1000000000);
        check.due("quiet(1, 0)", x.quiet(1, 0), 0);
        check.due("quiet(1, 1)", x.quiet(1, 1), 10000000);
        check.due("quiet(3, 50)", x.quiet(3, 50), 125000000);
        check.due("quiet(5, 33) cut each time", x.quiet(5, 33), 3913539);
        check.due("quiet(60, 99)", x.quiet(60, 99), 547156620);
        check.due("quiet(60, 70)", x.quiet(60, 70), cutEachTime(60, 70));
        check.refused(x, "quiet(-1, 50)", () -> x.quiet(-1, 50), Check.OUTSIDE);
        check.refused(x, "quiet(61, 50)", () -> x.quiet(61, 50), Check.OUTSIDE);
        check.refused(x, "quiet(1, -1)", () -> x.quiet(1, -1), Check.OUTSIDE);
        check.refused(x, "quiet(1, 101)", () -> x.quiet(1, 101), Check.OUTSIDE);
    }

    private static int cutEachTime(int n, int q) {
        java.math.BigInteger odds = java.math.BigInteger.valueOf(1000000000);
        for (int i = 0; i < n; i++) {
            odds = odds.multiply(java.math.BigInteger.valueOf(q)).divide(java.math.BigInteger.valueOf(100));
        }
        return odds.intValueExact();
    }
}
