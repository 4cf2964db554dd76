import java.util.function.Supplier;
import java.util.function.ToIntFunction;

/** 'Terms': each refusal of each call, the values next to it that are taken, their order, and that nothing changes. */
public final class RefusalsTest {
    private static final Check check = new Check("RefusalsTest");
    private static final int MIN = Integer.MIN_VALUE;
    private static final int MAX = Integer.MAX_VALUE;
    private static final int ROOMS = 4;
    private static final int DOORS = 3;
    private static final int HEIRS = 5;
    private static final int[] NO_ROOMS = {-1, ROOMS, 5, 6, 7, 31, 32, MIN, MAX, -2};
    private static final int[] NO_DOORS = {-1, DOORS, 4, 7, 8, 9, MIN, MAX, -2};
    private static final int[] NO_HEIRS = {-1, HEIRS, 6, 7, MIN, MAX, -2};
    private static final int[] NO_IMAGES = {-1, 2, 3, MIN, MAX};

    public static void main(String[] args) {
        numbers();
        unknownRooms();
        unknownDoors();
        unknownHeirs();
        unknownImages();
        bitsOfNoRooms();
        outsideLooks();
        outsideNumbers();
        notNow();
        notWithoutManor();
        full();
        unknownAheadOfOutside();
        unknownAheadOfNot();
        unknownAheadOfFull();
        outsideAheadOfNot();
        outsideAheadOfFull();
        check.end();
    }

    /** A house in the midst of its second night, with two images, things seen and written, and part of a text. */
    private static LastSentence busy() {
        LastSentence x = Check.house("n6;r6;r4;r2;r0;d0 1 3;d1 2 2;d0 2 4;p0 5 0;p1 9 1;p2 3 2;p3 1 3;p4 20 0;");
        x.seed(20261118);
        x.say(0);
        x.drift(3);
        x.keep(0);
        x.drift(5);
        x.keep(1);
        x.hour(2);
        x.say(3);
        x.say(1);
        x.go(4, 0);
        x.out(0);
        x.candle(3, 9);
        x.see(0, true);
        x.see(3, false);
        x.write(0, 1);
        x.write(3, Check.NONE);
        Check.feedAll(x, "n3;r2;r");
        return x;
    }

    /** As busy as it gets: nothing more can be fed, seen, written, and no hour can pass. */
    private static LastSentence fullHouse() {
        LastSentence x = Check.house("n1;r1;r0;d0 1 1;p0 1 0;p3 1 1;");
        for (int i = 0; i < 450; i++) {
            x.hour(20);
        }
        x.keep(1);
        x.say(0);
        x.hour(1);
        x.say(1);
        for (int i = 0; i < 6; i++) {
            x.see(i % 2, i % 2 == 0);
        }
        for (int i = 0; i < 20; i++) {
            x.write(i % 2, 0);
        }
        Check.feedAll(x, "n1;" + " ".repeat(237));
        return x;
    }

    private static LastSentence noManor() {
        LastSentence x = new LastSentence();
        x.seed(77);
        x.keep(1);
        x.seed(78);
        x.feed('n');
        return x;
    }

    private static void refused(Supplier<LastSentence> made, String call, ToIntFunction<LastSentence> doIt, int want) {
        check.refusedOf(made, call, doIt, want);
    }

    private static void numbers() {
        check.says("They are far below all that is counted: -1000000001 and on.");
        check.due("UNKNOWN", LastSentence.UNKNOWN, -1000000001);
        check.due("OUTSIDE", LastSentence.OUTSIDE, -1000000002);
        check.due("NOT", LastSentence.NOT, -1000000003);
        check.due("FULL", LastSentence.FULL, -1000000004);
        check.says("NONE is -1.");
        check.due("NONE", LastSentence.NONE, -1);
    }

    private static void unknownRooms() {
        check.says("UNKNOWN (a ROOM, HEIR, DOOR, IMAGE that there is not; bits of such)");
        for (int r : NO_ROOMS) {
            refused(RefusalsTest::busy, "room(" + r + ", 0)", x -> x.room(r, 0), Check.UNKNOWN);
            refused(RefusalsTest::busy, "out(" + r + ")", x -> x.out(r), Check.UNKNOWN);
            refused(RefusalsTest::busy, "light(" + r + ")", x -> x.light(r), Check.UNKNOWN);
            refused(RefusalsTest::busy, "candle(" + r + ", 7)", x -> x.candle(r, 7), Check.UNKNOWN);
            refused(RefusalsTest::busy, "wall(" + r + ", 0)", x -> x.wall(r, 0), Check.UNKNOWN);
            refused(RefusalsTest::busy, "wall(0, " + r + ")", x -> x.wall(0, r), Check.UNKNOWN);
            refused(RefusalsTest::busy, "wall(" + r + ", " + r + ")", x -> x.wall(r, r), Check.UNKNOWN);
            refused(RefusalsTest::busy, "way(" + r + ", 0)", x -> x.way(r, 0), Check.UNKNOWN);
            refused(RefusalsTest::busy, "way(0, " + r + ")", x -> x.way(0, r), Check.UNKNOWN);
            refused(RefusalsTest::busy, "way(" + r + ", " + r + ")", x -> x.way(r, r), Check.UNKNOWN);
            refused(RefusalsTest::busy, "reading(" + r + ", 0)", x -> x.reading(r, 0), Check.UNKNOWN);
            refused(RefusalsTest::busy, "see(" + r + ", true)", x -> x.see(r, true), Check.UNKNOWN);
            refused(RefusalsTest::busy, "see(" + r + ", false)", x -> x.see(r, false), Check.UNKNOWN);
            refused(RefusalsTest::busy, "write(" + r + ", 0)", x -> x.write(r, 0), Check.UNKNOWN);
            refused(RefusalsTest::busy, "write(" + r + ", NONE)", x -> x.write(r, Check.NONE), Check.UNKNOWN);
        }
        LastSentence x = busy();
        for (int r : new int[] {0, ROOMS - 1}) {
            check.due("room(" + r + ", 0)", x.room(r, 0), r == 0 ? 6 : 9);
            check.due("candle(" + r + ", 7)", x.candle(r, 7), r == 0 ? 6 : 9);
            check.due("wall(" + r + ", " + r + ")", x.wall(r, r), 0);
            check.due("way(" + r + ", " + r + ")", x.way(r, r), 0);
            check.due("reading(" + r + ", 0)", x.reading(r, 0), x.room(r, 4));
            check.due("see(" + r + ", true)", x.see(r, true), r == 0 ? 3 : 4);
            check.due("write(" + r + ", 0)", x.write(r, 0), r == 0 ? 3 : 4);
        }
        check.due("light(0)", x.light(0), 1);
        check.due("out(0)", x.out(0), 1);
        check.due("out(3)", x.out(3), 1);
        check.due("light(3)", x.light(3), 1);
    }

    private static void unknownDoors() {
        check.says("UNKNOWN (a ROOM, HEIR, DOOR, IMAGE that there is not; bits of such)");
        for (int d : NO_DOORS) {
            refused(RefusalsTest::busy, "door(" + d + ", 0)", x -> x.door(d, 0), Check.UNKNOWN);
            refused(RefusalsTest::busy, "go(0, " + d + ")", x -> x.go(0, d), Check.UNKNOWN);
        }
        LastSentence x = Check.house("n1;r1;r1;d0 1 7;d1 0 8;d0 1 9;p0 1 0;");
        check.due("door(0, 2)", x.door(0, 2), 7);
        check.due("door(2, 2)", x.door(2, 2), 9);
        check.due("go(0, 0)", x.go(0, 0), 1);
        check.due("go(0, 2)", x.go(0, 2), 0);
        LastSentence noDoors = Check.house("n1;r1;r1;p0 1 0;");
        check.due("door(0, 0) where there is none", noDoors.door(0, 0), Check.UNKNOWN);
        check.due("go(0, 0) where there is none", noDoors.go(0, 0), Check.UNKNOWN);
    }

    private static void unknownHeirs() {
        check.says("UNKNOWN (a ROOM, HEIR, DOOR, IMAGE that there is not; bits of such)");
        for (int p : NO_HEIRS) {
            refused(RefusalsTest::busy, "heir(" + p + ", 0)", x -> x.heir(p, 0), Check.UNKNOWN);
            refused(RefusalsTest::busy, "say(" + p + ")", x -> x.say(p), Check.UNKNOWN);
            refused(RefusalsTest::busy, "go(" + p + ", 0)", x -> x.go(p, 0), Check.UNKNOWN);
            refused(RefusalsTest::busy, "fewest(" + p + ", 1, 0)", x -> x.fewest(p, 1, 0), Check.UNKNOWN);
            refused(RefusalsTest::busy, "fewest(" + p + ", 0, 1)", x -> x.fewest(p, 0, 1), Check.UNKNOWN);
            if (p != Check.NONE) {
                refused(RefusalsTest::busy, "write(0, " + p + ")", x -> x.write(0, p), Check.UNKNOWN);
            }
        }
        LastSentence x = busy();
        check.due("heir(0, 1)", x.heir(0, 1), 5);
        check.due("heir(4, 1)", x.heir(HEIRS - 1, 1), 20);
        check.due("say(0)", x.say(0) >= 0 ? 1 : 0, 1);
        check.due("say(4)", x.say(HEIRS - 1) >= 0 ? 1 : 0, 1);
        check.due("fewest(0, 0, 0)", x.fewest(0, 0, 0), 0);
        check.due("fewest(4, 0, 0)", x.fewest(HEIRS - 1, 0, 0), 0);
        check.says("An entry behind THE BOOK (an HEIR, or NONE): how many.");
        check.due("write(0, NONE)", x.write(0, Check.NONE), 3);
        check.due("write(0, 0)", x.write(0, 0), 4);
        check.due("write(0, 4)", x.write(0, HEIRS - 1), 5);
        check.due("write(0, 5)", x.write(0, HEIRS), Check.UNKNOWN);
        check.due("write(0, -2)", x.write(0, -2), Check.UNKNOWN);
        LastSentence nobody = Check.house("n1;r1;");
        check.due("write(0, NONE) without heirs", nobody.write(0, Check.NONE), 1);
        check.due("write(0, 0) without heirs", nobody.write(0, 0), Check.UNKNOWN);
        check.due("heir(0, 0) without heirs", nobody.heir(0, 0), Check.UNKNOWN);
    }

    private static void unknownImages() {
        check.says("IMAGES 0, 1 keep all of section 2, THE SEED.");
        for (int i : NO_IMAGES) {
            refused(RefusalsTest::busy, "keep(" + i + ")", x -> x.keep(i), Check.UNKNOWN);
            refused(RefusalsTest::busy, "goBack(" + i + ")", x -> x.goBack(i), Check.UNKNOWN);
            refused(RefusalsTest::noManor, "keep(" + i + ")", x -> x.keep(i), Check.UNKNOWN);
            refused(RefusalsTest::noManor, "goBack(" + i + ")", x -> x.goBack(i), Check.UNKNOWN);
        }
        LastSentence x = busy();
        check.due("goBack(0)", x.goBack(0), 1);
        check.due("goBack(1)", x.goBack(1), 1);
        check.due("keep(0)", x.keep(0), 1);
        check.due("keep(1)", x.keep(1), 1);
    }

    private static void bitsOfNoRooms() {
        check.says("bits of such");
        for (int set : new int[] {1 << ROOMS, 1 << ROOMS | 1, 1 << 5, 1 << 6, 1 << 30, MAX, MIN, MIN | 1, -1, -16}) {
            refused(RefusalsTest::busy, "fewest(0, " + set + ", 0)", x -> x.fewest(0, set, 0), Check.UNKNOWN);
            refused(RefusalsTest::busy, "fewest(0, " + set + ", 1)", x -> x.fewest(0, set, 1), Check.UNKNOWN);
        }
        LastSentence x = busy();
        for (int set = 0; set < 1 << ROOMS; set++) {
            check.due("fewest(0, " + set + ", 0) is no refusal", x.fewest(0, set, 0) >= Check.NONE ? 1 : 0, 1);
        }
        LastSentence six = Check.house("n9;r9;r9;r9;r9;r9;r9;p0 1 5;");
        check.due("fewest(0, 32, 0) of six rooms", six.fewest(0, 32, 0), 1);
        check.due("fewest(0, 63, 0) of six rooms", six.fewest(0, 63, 0), Check.NONE);
        check.due("fewest(0, 64, 0) of six rooms", six.fewest(0, 64, 0), Check.UNKNOWN);
    }

    private static void outsideLooks() {
        check.says("OUTSIDE (another number out of its bounds)");
        for (int what : new int[] {-1, 14, 15, MIN, MAX, Check.OUTSIDE}) {
            refused(RefusalsTest::busy, "told(" + what + ")", x -> x.told(what), Check.OUTSIDE);
        }
        for (int what : new int[] {-1, 6, 7, MIN, MAX}) {
            refused(RefusalsTest::busy, "room(3, " + what + ")", x -> x.room(3, what), Check.OUTSIDE);
            refused(RefusalsTest::busy, "heir(4, " + what + ")", x -> x.heir(4, what), Check.OUTSIDE);
        }
        for (int what : new int[] {-1, 3, 4, MIN, MAX}) {
            refused(RefusalsTest::busy, "door(2, " + what + ")", x -> x.door(2, what), Check.OUTSIDE);
        }
        for (int what : new int[] {-1, 2, 3, MIN, MAX}) {
            refused(RefusalsTest::busy, "fewest(4, 15, " + what + ")", x -> x.fewest(4, 15, what), Check.OUTSIDE);
            refused(RefusalsTest::busy, "fewest(0, 0, " + what + ")", x -> x.fewest(0, 0, what), Check.OUTSIDE);
        }
        for (int k : new int[] {-1, 4, 5, MIN, MAX}) {
            refused(RefusalsTest::busy, "reading(3, " + k + ")", x -> x.reading(3, k), Check.OUTSIDE);
        }
        LastSentence x = busy();
        check.due("told(0)", x.told(0), 6);
        check.due("told(13)", x.told(13), 7);
        check.due("room(3, 0)", x.room(3, 0), 9);
        check.due("room(3, 5)", x.room(3, 5), 1);
        check.due("door(2, 0)", x.door(2, 0), 0);
        check.due("door(2, 2)", x.door(2, 2), 4);
        check.due("heir(4, 0)", x.heir(4, 0), 4);
        check.due("heir(4, 5)", x.heir(4, 5) >= 0 ? 1 : 0, 1);
        check.due("fewest(0, 0, 0)", x.fewest(0, 0, 0), 0);
        check.due("fewest(0, 0, 1)", x.fewest(0, 0, 1), Check.NONE);
        check.due("reading(3, 0)", x.reading(3, 0), 3);
        check.due("reading(3, 3)", x.reading(3, 3), 3);
    }

    private static void outsideNumbers() {
        check.says("OUTSIDE (another number out of its bounds)");
        for (int letter : new int[] {-1, 256, 257, MIN, MAX}) {
            refused(RefusalsTest::busy, "feed(" + letter + ")", x -> x.feed(letter), Check.OUTSIDE);
        }
        for (int n : new int[] {0, 21, -1, 22, MIN, MAX}) {
            refused(RefusalsTest::busy, "hour(" + n + ")", x -> x.hour(n), Check.OUTSIDE);
            refused(RefusalsTest::busy, "drift(" + n + ")", x -> x.drift(n), Check.OUTSIDE);
        }
        for (int c : new int[] {-1, 21, 22, MIN, MAX}) {
            refused(RefusalsTest::busy, "candle(3, " + c + ")", x -> x.candle(3, c), Check.OUTSIDE);
        }
        for (int n : new int[] {0, 31, -1, 32, MIN, MAX}) {
            refused(RefusalsTest::busy, "undo(" + n + ")", x -> x.undo(n), Check.OUTSIDE);
        }
        for (int n : new int[] {-1, 61, MIN, MAX}) {
            refused(RefusalsTest::busy, "quiet(" + n + ", 50)", x -> x.quiet(n, 50), Check.OUTSIDE);
        }
        for (int q : new int[] {-1, 101, MIN, MAX}) {
            refused(RefusalsTest::busy, "quiet(9, " + q + ")", x -> x.quiet(9, q), Check.OUTSIDE);
            refused(RefusalsTest::busy, "quiet(0, " + q + ")", x -> x.quiet(0, q), Check.OUTSIDE);
        }
        for (int v : new int[] {-1, -2, MIN}) {
            refused(RefusalsTest::busy, "seed(" + v + ")", x -> x.seed(v), Check.OUTSIDE);
        }
        LastSentence x = busy();
        check.due("candle(3, 0)", x.candle(3, 0), 9);
        check.due("candle(3, 20)", x.candle(3, 20), 0);
        check.due("undo(1)", x.undo(1), x.told(5));
        check.due("hour(1)", x.hour(1), 5);
        check.due("hour(20)", x.hour(20), 1);
        check.due("undo(30)", x.undo(30), Check.NOT);
        check.due("drift(1)", x.drift(1), 2);
        check.due("drift(20)", x.drift(20), 4);
        check.due("undo(30)", x.undo(30), 4);
        check.due("seed(0)", x.seed(0) >= 0 ? 1 : 0, 1);
        check.due("seed(MAX)", x.seed(MAX), 0);
        check.due("seed(0)", x.seed(0), MAX);
    }

    private static void notNow() {
        check.says("GOES by a DOOR: the ROOM. UNKNOWN, NOT: he is not at it.");
        // heir 3 is in room 3, at which no door is
        for (int d = 0; d < DOORS; d++) {
            int by = d;
            refused(RefusalsTest::busy, "go(3, " + d + ")", x -> x.go(3, by), Check.NOT);
        }
        refused(RefusalsTest::goneByOne, "go(0, 2)", x -> x.go(0, 2), Check.NOT);
        check.due("go(0, 1)", goneByOne().go(0, 1), 2);
        check.due("go(0, 0)", goneByOne().go(0, 0), 0);
        check.says("Put OUT: 1 it was LIT, 0 not. UNKNOWN, NOT: it is OUT.");
        refused(RefusalsTest::busy, "out(0)", x -> x.out(0), Check.NOT);
        check.says("LIT AGAIN (OUT no more): 1 it is LIT then, 0 not. UNKNOWN, NOT: it is not OUT.");
        refused(RefusalsTest::busy, "light(1) a candle that burns", x -> x.light(1), Check.NOT);
        refused(RefusalsTest::busy, "light(2) one burnt down", x -> x.light(2), Check.NOT);
        refused(RefusalsTest::busy, "light(3)", x -> x.light(3), Check.NOT);
        check.says("The n latest (1 .. 30) are undone: HOURS. OUTSIDE, NOT: not so many.");
        for (int n : new int[] {8, 9, 29, 30}) {
            refused(RefusalsTest::busy, "undo(" + n + ") of seven", x -> x.undo(n), Check.NOT);
        }
        check.due("undo(7) of seven", busy().undo(7), busy().undo(6) - 1);
        check.says("What is so becomes IMAGE i (nothing can be undone then): 1. UNKNOWN, NOT: it was not kept.");
        refused(RefusalsTest::fullHouse, "goBack(0)", x -> x.goBack(0), Check.NOT);
        check.due("goBack(1)", fullHouse().goBack(1), 1);
        refused(RefusalsTest::noManor, "goBack(0)", x -> x.goBack(0), Check.NOT);
    }

    private static LastSentence goneByOne() {
        LastSentence x = Check.house("n4;r4;r4;r4;d0 1 1;d2 1 1;d0 2 1;p0 1 0;");
        x.go(0, 0);
        return x;
    }

    private static void notWithoutManor() {
        check.says("n HOURS pass (1 .. 20): HOURS. OUTSIDE, NOT: no MANOR; FULL: NIGHTS are above 9000.");
        refused(RefusalsTest::noManor, "hour(1)", x -> x.hour(1), Check.NOT);
        refused(RefusalsTest::noManor, "hour(20)", x -> x.hour(20), Check.NOT);
        check.says("n HOURS BY DRAWS (1 .. 20): HOURS. OUTSIDE, NOT: no MANOR; FULL: NIGHTS are above 9000.");
        refused(RefusalsTest::noManor, "drift(1)", x -> x.drift(1), Check.NOT);
        refused(RefusalsTest::noManor, "drift(20)", x -> x.drift(20), Check.NOT);
        refused(RefusalsTest::noManor, "undo(1)", x -> x.undo(1), Check.NOT);
        LastSentence bare = Check.house("n1;");
        check.due("hour(1) of a manor without rooms", bare.hour(1), 0);
        check.due("drift(20) of a manor without rooms", bare.drift(20), 0);
        check.due("told(6)", bare.told(6), 21);
    }

    private static void full() {
        check.says("OUTSIDE, FULL (240).");
        for (int letter : new int[] {0, ' ', ';', 'n', 255}) {
            refused(RefusalsTest::fullHouse, "feed(" + letter + ")", x -> x.feed(letter), Check.FULL);
        }
        check.says("SEEN: how much. UNKNOWN, FULL (6).");
        refused(RefusalsTest::fullHouse, "see(0, true)", x -> x.see(0, true), Check.FULL);
        refused(RefusalsTest::fullHouse, "see(1, false)", x -> x.see(1, false), Check.FULL);
        check.says("An entry behind THE BOOK (an HEIR, or NONE): how many. UNKNOWN, FULL (20).");
        refused(RefusalsTest::fullHouse, "write(0, 1)", x -> x.write(0, 1), Check.FULL);
        refused(RefusalsTest::fullHouse, "write(1, NONE)", x -> x.write(1, Check.NONE), Check.FULL);
        check.says("FULL: NIGHTS are above 9000.");
        check.due("told(6)", fullHouse().told(6), 9001);
        refused(RefusalsTest::fullHouse, "hour(1)", x -> x.hour(1), Check.FULL);
        refused(RefusalsTest::fullHouse, "hour(20)", x -> x.hour(20), Check.FULL);
        refused(RefusalsTest::fullHouse, "drift(1)", x -> x.drift(1), Check.FULL);
        refused(RefusalsTest::fullHouse, "drift(20)", x -> x.drift(20), Check.FULL);
    }

    private static void unknownAheadOfOutside() {
        check.says("REFUSALS, of several the first in this order: UNKNOWN");
        refused(RefusalsTest::busy, "room(4, 6)", x -> x.room(4, 6), Check.UNKNOWN);
        refused(RefusalsTest::busy, "room(-1, -1)", x -> x.room(-1, -1), Check.UNKNOWN);
        refused(RefusalsTest::busy, "door(3, 3)", x -> x.door(3, 3), Check.UNKNOWN);
        refused(RefusalsTest::busy, "door(-1, -1)", x -> x.door(-1, -1), Check.UNKNOWN);
        refused(RefusalsTest::busy, "heir(5, 6)", x -> x.heir(5, 6), Check.UNKNOWN);
        refused(RefusalsTest::busy, "heir(-1, -1)", x -> x.heir(-1, -1), Check.UNKNOWN);
        refused(RefusalsTest::busy, "candle(4, 21)", x -> x.candle(4, 21), Check.UNKNOWN);
        refused(RefusalsTest::busy, "candle(-1, -1)", x -> x.candle(-1, -1), Check.UNKNOWN);
        refused(RefusalsTest::busy, "fewest(5, 1, 2)", x -> x.fewest(5, 1, 2), Check.UNKNOWN);
        refused(RefusalsTest::busy, "fewest(0, 16, 2)", x -> x.fewest(0, 16, 2), Check.UNKNOWN);
        refused(RefusalsTest::busy, "fewest(-1, -1, -1)", x -> x.fewest(-1, -1, -1), Check.UNKNOWN);
        refused(RefusalsTest::busy, "reading(4, 4)", x -> x.reading(4, 4), Check.UNKNOWN);
        refused(RefusalsTest::busy, "reading(-1, -1)", x -> x.reading(-1, -1), Check.UNKNOWN);
    }

    private static void unknownAheadOfNot() {
        check.says("REFUSALS, of several the first in this order: UNKNOWN");
        // heir 3 is at no door at all, so each door would be a NOT
        refused(RefusalsTest::busy, "go(3, 3)", x -> x.go(3, 3), Check.UNKNOWN);
        refused(RefusalsTest::busy, "go(3, -1)", x -> x.go(3, -1), Check.UNKNOWN);
        refused(RefusalsTest::busy, "go(5, 0)", x -> x.go(5, 0), Check.UNKNOWN);
        refused(RefusalsTest::busy, "go(-1, 0)", x -> x.go(-1, 0), Check.UNKNOWN);
        refused(RefusalsTest::fullHouse, "goBack(2)", x -> x.goBack(2), Check.UNKNOWN);
        refused(RefusalsTest::fullHouse, "goBack(-1)", x -> x.goBack(-1), Check.UNKNOWN);
        refused(RefusalsTest::noManor, "out(0)", x -> x.out(0), Check.UNKNOWN);
        refused(RefusalsTest::noManor, "light(0)", x -> x.light(0), Check.UNKNOWN);
    }

    private static void unknownAheadOfFull() {
        check.says("REFUSALS, of several the first in this order: UNKNOWN");
        refused(RefusalsTest::fullHouse, "see(2, true)", x -> x.see(2, true), Check.UNKNOWN);
        refused(RefusalsTest::fullHouse, "see(-1, false)", x -> x.see(-1, false), Check.UNKNOWN);
        refused(RefusalsTest::fullHouse, "write(2, 0)", x -> x.write(2, 0), Check.UNKNOWN);
        refused(RefusalsTest::fullHouse, "write(0, 2)", x -> x.write(0, 2), Check.UNKNOWN);
        refused(RefusalsTest::fullHouse, "write(0, -2)", x -> x.write(0, -2), Check.UNKNOWN);
        refused(RefusalsTest::fullHouse, "write(-1, NONE)", x -> x.write(-1, Check.NONE), Check.UNKNOWN);
    }

    private static void outsideAheadOfNot() {
        check.says("OUTSIDE (another number out of its bounds), NOT (not now, as told), FULL.");
        for (int n : new int[] {0, 21, -1, MIN, MAX}) {
            refused(RefusalsTest::noManor, "hour(" + n + ")", x -> x.hour(n), Check.OUTSIDE);
            refused(RefusalsTest::noManor, "drift(" + n + ")", x -> x.drift(n), Check.OUTSIDE);
        }
        for (int n : new int[] {0, 31, -1, MIN, MAX}) {
            refused(RefusalsTest::noManor, "undo(" + n + ")", x -> x.undo(n), Check.OUTSIDE);
        }
    }

    private static void outsideAheadOfFull() {
        check.says("OUTSIDE (another number out of its bounds), NOT (not now, as told), FULL.");
        for (int n : new int[] {0, 21, -1, MIN, MAX}) {
            refused(RefusalsTest::fullHouse, "hour(" + n + ")", x -> x.hour(n), Check.OUTSIDE);
            refused(RefusalsTest::fullHouse, "drift(" + n + ")", x -> x.drift(n), Check.OUTSIDE);
        }
        refused(RefusalsTest::fullHouse, "feed(256)", x -> x.feed(256), Check.OUTSIDE);
        refused(RefusalsTest::fullHouse, "feed(-1)", x -> x.feed(-1), Check.OUTSIDE);
    }
}
