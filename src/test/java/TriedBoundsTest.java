import java.math.BigInteger;

/** Each boundary case that section 3 (TRIED) names for promises 5, 6, 8 and 17 to 21, by its sentence. */
public final class TriedBoundsTest {
    private static final Check check = new Check("TriedBoundsTest");

    public static void main(String[] args) {
        nothingChanges();
        countsOtherwiseOrNew();
        willOrNone();
        wayOrNone();
        fewestNeedsNone();
        fewestByNone();
        fewestFromNowToTheEnd();
        fewestSaysFirstThenGoes();
        fewestOncePerHour();
        fewestByEachDoor();
        fewestOfSomeRooms();
        fewestForTheTaught();
        fewestByKind();
        fewestLatestHour();
        readingThroughDoors();
        readingOfHalfTheNight();
        readingOfTaughtOnes();
        readingIfNoneCounts();
        sureByAllFour();
        worthOfRooms();
        theHolder();
        quietNights();
        check.end();
    }

    private static void fewest(LastSentence x, int p, int set, int sayings, int latest) {
        check.due("fewest(" + p + ", " + set + ", 0)", x.fewest(p, set, 0), sayings);
        check.due("fewest(" + p + ", " + set + ", 1)", x.fewest(p, set, 1), latest);
    }

    private static void readings(LastSentence x, int r, int... due) {
        for (int k = 0; k < 4; k++) {
            check.due("reading(" + r + ", " + k + ")", x.reading(r, k), due[k]);
        }
    }

    private static LastSentence midst() {
        LastSentence x = Check.house("n6;r6;r4;r2;r0;d0 1 3;d1 2 2;d2 3 4;p0 5 0;p1 9 1;p2 3 2;p3 1 3;p4 20 0;");
        x.seed(3);
        x.drift(20);
        x.keep(0);
        x.say(0);
        x.hour(2);
        x.say(1);
        x.out(2);
        x.see(1, true);
        x.write(0, 3);
        x.feed('n');
        return x;
    }

    private static void nothingChanges() {
        check.says("TRIED from now, as nothing else is done; nothing changes by it.");
        LastSentence x = midst();
        for (int i = 0; i < 3; i++) {
            Check.look(x);
            for (int p = 0; p < 5; p++) {
                for (int set = 0; set < 16; set++) {
                    int first = x.fewest(p, set, 0);
                    x.fewest(p, 15 - set, 1);
                    check.due("fewest(" + p + ", " + set + ", 0) again", x.fewest(p, set, 0), first);
                }
            }
            x.quiet(60, 99);
            x.wall(0, 3);
            x.way(3, 0);
        }
        check.same("all, tried or not", Check.lookThrough(x), Check.lookThrough(midst()));
    }

    private static void countsOtherwiseOrNew() {
        check.says("COUNTS: ROOMS (a SET) whose LAST word would be otherwise, or new, if he SAID something now.");
        LastSentence x = Check.house("n4;r4;r4;r4;d0 1 0;d1 2 0;p0 1 0;p0 1 2;p2 1 1;p3 1 1;p4 1 0;");
        check.due("heir(0, 4) new in all", x.heir(0, 4), 7);
        x.say(0);
        check.due("heir(0, 4) his already", x.heir(0, 4), 0);
        check.due("heir(2, 4) heir 0's already", x.heir(2, 4), 0);
        check.due("heir(1, 4) otherwise in all", x.heir(1, 4), 7);
        check.due("heir(3, 4)", x.heir(3, 4), 2);
        check.due("heir(4, 4)", x.heir(4, 4), 1);
        x.say(3);
        check.due("heir(0, 4) otherwise in one", x.heir(0, 4), 2);
        check.due("heir(3, 4)", x.heir(3, 4), 0);
        x.hour(4);
        check.due("heir(0, 4): what belongs to him is no word", x.heir(0, 4), 7);
        for (int p = 0; p < 5; p++) {
            int counts = x.heir(p, 4);
            check.due("say(" + p + ") answers COUNTS", x.say(p), counts);
        }
        LastSentence mine = Check.house("n1;r1;r1;r1;r1;r1;r1;d0 1 0;d1 2 0;d2 3 0;d3 4 0;d4 5 0;p0 1 0;");
        check.due("heir(0, 4) all six", mine.heir(0, 4), 63);
    }

    private static void willOrNone() {
        check.says("WILL: to whom a ROOM would belong, if the NIGHT ended now; NONE.");
        LastSentence x = Check.house("n2;r2;r2;p0 1 0;p0 1 0;");
        check.due("room(0, 4) no word, nobody's", x.room(0, 4), Check.NONE);
        x.say(1);
        check.due("room(0, 4) by a word", x.room(0, 4), 1);
        check.due("room(0, 2)", x.room(0, 2), Check.NONE);
        check.due("room(1, 4)", x.room(1, 4), Check.NONE);
        x.hour(2);
        check.due("room(0, 4) no word, but belonging", x.room(0, 4), 1);
        check.due("room(0, 3)", x.room(0, 3), Check.NONE);
        x.say(0);
        check.due("room(0, 4) a word ahead of belonging", x.room(0, 4), 0);
        check.due("room(0, 2)", x.room(0, 2), 1);
    }

    private static void wayOrNone() {
        check.says("WAY: how many DOORS at least from a ROOM to another; NONE.");
        LastSentence x = Check.house("n1;r1;r1;r1;r1;r1;r1;d0 1 0;d1 2 0;d2 3 0;d3 4 0;");
        for (int a = 0; a < 5; a++) {
            for (int b = 0; b < 5; b++) {
                check.due("way(" + a + ", " + b + ")", x.way(a, b), Math.abs(a - b));
            }
            check.due("way(" + a + ", 5)", x.way(a, 5), Check.NONE);
            check.due("way(5, " + a + ")", x.way(5, a), Check.NONE);
        }
        check.due("way(5, 5)", x.way(5, 5), 0);
        LastSentence ring = Check.house("n1;r1;r1;r1;r1;r1;r1;d0 1 9;d1 2 9;d2 3 9;d3 4 9;d4 5 9;d5 0 9;");
        check.due("way(0, 3) around either side", ring.way(0, 3), 3);
        check.due("way(0, 4)", ring.way(0, 4), 2);
        check.due("way(5, 1)", ring.way(5, 1), 2);
        check.due("wall(0, 3)", ring.wall(0, 3), 27);
    }

    private static void fewestNeedsNone() {
        check.says("how many (0: none is needed; NONE: by none)");
        LastSentence x = Check.house("n2;r2;r2;d0 1 9;p0 1 0;p0 1 1;");
        fewest(x, 0, 0, 0, Check.NONE);
        x.say(0);
        fewest(x, 0, 1, 0, Check.NONE);
        fewest(x, 1, 1, 1, 1);
        x.hour(2);
        fewest(x, 0, 1, 0, Check.NONE);
        fewest(x, 0, 3, 1, 1);
        x.hour(1);
        fewest(x, 0, 1, 0, Check.NONE);
        x.out(0);
        fewest(x, 0, 1, 0, Check.NONE);
        x.light(0);
        x.go(1, 0);
        x.say(1);
        fewest(x, 0, 1, 1, 1);
        fewest(x, 0, 0, 0, Check.NONE);
    }

    private static void fewestByNone() {
        check.says("NONE: none is needed, by none.");
        LastSentence x = Check.house("n3;r3;r0;r3;d0 1 0;p0 1 0;p3 1 0;p4 1 0;p1 1 2;");
        fewest(x, 0, 2, Check.NONE, Check.NONE);
        fewest(x, 0, 3, Check.NONE, Check.NONE);
        fewest(x, 0, 4, Check.NONE, Check.NONE);
        fewest(x, 1, 2, 1, 2);
        fewest(x, 1, 4, Check.NONE, Check.NONE);
        fewest(x, 2, 1, Check.NONE, Check.NONE);
        fewest(x, 3, 4, 1, 2);
        x.out(2);
        fewest(x, 3, 4, Check.NONE, Check.NONE);
    }

    private static void fewestFromNowToTheEnd() {
        check.says("all others being silent, from now to the NIGHT's end");
        for (int n = 1; n <= 20; n++) {
            LastSentence x = Check.house("n" + n + ";r20;r20;d0 1 9;p0 1 0;");
            for (int h = 0; h < n; h++) {
                fewest(x, 0, 1, 1, n - 1);
                fewest(x, 0, 2, h < n - 1 ? 1 : Check.NONE, h < n - 1 ? n - 1 : Check.NONE);
                fewest(x, 0, 3, h < n - 1 ? 2 : Check.NONE, h < n - 1 ? n - 2 : Check.NONE);
                x.hour(1);
            }
            fewest(x, 0, 1, 1, n - 1);
        }
        // a row of six rooms needs six hours, and no fewer
        LastSentence row = Check.house("n20;r20;r20;r20;r20;r20;r20;d0 1 9;d1 2 9;d2 3 9;d3 4 9;d4 5 9;p0 1 0;");
        row.hour(14);
        fewest(row, 0, 63, 6, 14);
        row.hour(1);
        fewest(row, 0, 63, Check.NONE, Check.NONE);
        fewest(row, 0, 31, 5, 15);
    }

    private static void fewestSaysFirstThenGoes() {
        check.says("in each HOUR left he may first SAY something once, then go by one DOOR, or stay");
        LastSentence x = Check.house("n2;r2;r2;r2;d0 1 9;d1 2 9;p0 1 0;");
        fewest(x, 0, 2, 1, 1);
        fewest(x, 0, 4, Check.NONE, Check.NONE);
        fewest(x, 0, 3, 2, 0);
        x.hour(1);
        fewest(x, 0, 2, Check.NONE, Check.NONE);
        fewest(x, 0, 1, 1, 1);
        // the first saying is in this hour still: its candle is in its last one
        LastSentence y = Check.house("n4;r1;r2;r4;d0 1 9;d1 2 9;p0 1 0;");
        fewest(y, 0, 7, 3, 0);
        fewest(y, 0, 6, 2, 1);
        fewest(y, 0, 4, 1, 3);
        // one saying is enough for both, while the short candle burns
        LastSentence stay = Check.house("n9;r9;r1;d0 1 0;p0 1 0;");
        fewest(stay, 0, 3, 1, 0);
        fewest(stay, 0, 1, 1, 8);
    }

    private static void fewestOncePerHour() {
        check.says("first SAY something once");
        // two rooms with a hall between, each heard in itself alone: two sayings, two hours apart
        LastSentence x = Check.house("n3;r3;r3;r3;d0 1 9;d1 2 9;p0 1 0;");
        fewest(x, 0, 5, 2, 0);
        x.hour(1);
        fewest(x, 0, 5, Check.NONE, Check.NONE);
        fewest(x, 0, 3, 2, 1);
    }

    private static void fewestByEachDoor() {
        check.says("then go by one DOOR, or stay");
        // a hall with four doors, told from either side: each is open to him, there and back
        LastSentence x = Check.house("n9;r9;r9;r9;r9;r9;d0 1 9;d2 0 9;d0 3 9;d4 0 9;p0 1 0;p0 1 1;p0 1 2;p0 1 3;p0 1 4;");
        for (int p = 1; p <= 4; p++) {
            for (int r = 1; r <= 4; r++) {
                if (r != p) {
                    fewest(x, p, 1 << p | 1 << r, 2, 6);
                }
            }
            fewest(x, p, 1 << p | 1, 2, 7);
            fewest(x, 0, 1 << p | 1, 2, 7);
            fewest(x, p, 31, 5, 2);
        }
        fewest(x, 0, 31, 5, 2);
        fewest(x, 0, 30, 4, 2);
        // the eighth door alone leads to room 2
        LastSentence last = Check.house("n9;r9;r9;r9;d0 1 9;d0 1 9;d0 1 9;d0 1 9;d0 1 9;d0 1 9;d0 1 9;d2 1 9;p0 1 0;p0 1 2;");
        fewest(last, 0, 5, 2, 6);
        fewest(last, 1, 5, 2, 6);
        fewest(last, 0, 7, 3, 6);
    }

    private static void fewestOfSomeRooms() {
        check.says("FEWEST for an HEIR and a SET of ROOMS");
        // heard in rooms 0 and 2, while room 1 is dark
        LastSentence x = Check.house("n9;r9;r0;r9;d0 2 0;p0 1 0;");
        int[] sayings = {0, 1, Check.NONE, Check.NONE, 1, 1, Check.NONE, Check.NONE};
        for (int set = 0; set < 8; set++) {
            fewest(x, 0, set, sayings[set], sayings[set] == 1 ? 8 : Check.NONE);
        }
        // one saying is heard in all six: each SET takes one, the empty one none
        LastSentence all = Check.house("n9;r9;r9;r9;r9;r9;r9;d0 1 1;d1 2 1;d2 3 1;d3 4 1;d4 5 1;p0 6 0;");
        for (int set = 1; set < 64; set++) {
            fewest(all, 0, set, 1, 8);
        }
        // one is heard in each room alone: each SET takes as many as it has
        LastSentence each = Check.house("n20;r20;r20;r20;r20;r20;r20;d0 1 1;d1 2 1;d2 3 1;d3 4 1;d4 5 1;d5 0 1;p0 1 0;");
        for (int set = 1; set < 64; set++) {
            check.due("fewest(0, " + set + ", 0)", each.fewest(0, set, 0), Integer.bitCount(set));
        }
    }

    private static void fewestForTheTaught() {
        check.says("the fewest SAYINGS by which WILL of all of the SET is HEIR 0 (if he is taught), else he");
        LastSentence x = Check.house("n4;r4;r4;d0 1 0;p0 1 0;p2 1 1;p0 1 0;");
        fewest(x, 1, 3, 1, 3);
        x.say(0);
        fewest(x, 1, 3, 0, Check.NONE);
        fewest(x, 0, 3, 0, Check.NONE);
        fewest(x, 2, 3, 1, 3);
        x.say(2);
        fewest(x, 1, 3, 1, 3);
        fewest(x, 2, 3, 0, Check.NONE);
        x.say(1);
        fewest(x, 0, 3, 0, Check.NONE);
        fewest(x, 1, 3, 0, Check.NONE);
    }

    private static void fewestByKind() {
        check.says("from now to the NIGHT's end, in each HOUR left he may first SAY something once");
        for (int n = 1; n <= 20; n++) {
            // asleep, with a candle that is out just ahead of half, or just behind it
            LastSentence x = Check.house("n" + n + ";r" + n / 2 + ";r" + (n / 2 + 1 > 20 ? 20 : n / 2 + 1) + ";p1 1 0;p1 1 1;");
            fewest(x, 0, 1, Check.NONE, Check.NONE);
            fewest(x, 1, 2, 1, n / 2);
        }
        LastSentence writer = Check.house("n4;r0;r0;d0 1 0;p3 20 0;");
        fewest(writer, 0, 3, 2, 2);
        LastSentence parrot = Check.house("n4;r4;r2;r4;d0 1 0;d1 2 0;p4 20 0;p0 1 0;p0 20 1;");
        fewest(parrot, 0, 7, Check.NONE, Check.NONE);
        parrot.say(1);
        fewest(parrot, 0, 7, 3, 0);
        fewest(parrot, 0, 2, 1, 1);
        parrot.hour(1);
        // room 1 is lit in this hour alone, and the parrot is not in it yet
        fewest(parrot, 0, 2, Check.NONE, Check.NONE);
        fewest(parrot, 0, 7, Check.NONE, Check.NONE);
        fewest(parrot, 0, 5, 2, 1);
    }

    private static void fewestLatestHour() {
        check.says("the latest HOUR (HOURS of the NIGHT) at which such a plan can begin to SAY something");
        for (int c = 1; c <= 20; c++) {
            LastSentence x = Check.house("n20;r" + c + ";p0 1 0;");
            fewest(x, 0, 1, 1, c - 1);
        }
        // of plans with the fewest sayings alone: two could begin later than one
        LastSentence y = Check.house("n9;r3;r9;d0 1 1;p0 2 0;");
        fewest(y, 0, 3, 1, 2);
        fewest(y, 0, 2, 1, 8);
        // the plan begins with its first saying, however late the last one may be
        LastSentence z = Check.house("n9;r2;r9;d0 1 9;p0 1 0;");
        fewest(z, 0, 3, 2, 1);
        z.hour(1);
        fewest(z, 0, 3, 2, 1);
        z.hour(1);
        fewest(z, 0, 3, Check.NONE, Check.NONE);
    }

    private static void readingThroughDoors() {
        check.says("1 words HEARD through a DOOR do not count (in the ROOM itself alone)");
        LastSentence x = Check.house("n1;r1;r1;d0 1 0;p0 20 0;p2 20 0;p3 20 1;");
        x.say(0);
        readings(x, 0, 0, 0, 0, 0);
        readings(x, 1, 0, Check.NONE, 0, 0);
        x.say(2);
        readings(x, 1, 2, 2, 2, 2);
        x.say(0);
        readings(x, 1, 0, 2, 0, 0);
        x.out(0);
        x.say(1);
        readings(x, 0, 0, 0, 0, 0);
        readings(x, 1, 0, 2, 0, 1);
    }

    private static void readingOfHalfTheNight() {
        check.says("2 words said ahead of half of the NIGHT (HOURS less than N / 2) do not count");
        for (int n = 1; n <= 20; n++) {
            for (int kind = 0; kind <= 3; kind++) {
                LastSentence x = Check.house("n" + n + ";r20;p" + kind + " 1 0;");
                for (int h = 0; h < n; h++) {
                    x.say(0);
                    check.due("reading(0, 2) at " + h + " of " + n, x.reading(0, 2), h >= n / 2 ? 0 : Check.NONE);
                    x.hour(1);
                }
            }
        }
    }

    private static void readingOfTaughtOnes() {
        check.says("3 taught ones speak for themselves");
        LastSentence x = Check.house("n1;r1;p0 1 0;p2 1 0;p2 1 0;");
        x.say(1);
        readings(x, 0, 0, 0, 0, 1);
        x.say(2);
        readings(x, 0, 0, 0, 0, 2);
        x.say(0);
        readings(x, 0, 0, 0, 0, 0);
        LastSentence self = Check.house("n1;r1;p2 1 0;");
        self.say(0);
        readings(self, 0, 0, 0, 0, 0);
    }

    private static void readingIfNoneCounts() {
        check.says("by words of this NIGHT, had it been so all NIGHT; if none counts, to whom it belongs");
        LastSentence x = Check.house("n4;r4;r4;d0 1 0;p0 1 0;p0 1 1;p2 1 0;");
        readings(x, 0, Check.NONE, Check.NONE, Check.NONE, Check.NONE);
        x.hour(2);
        x.say(1);
        x.hour(2);
        // as told both rooms are his: belonging is by reading 0, whatever the others would have had
        readings(x, 0, 1, 1, 1, 1);
        readings(x, 1, 1, 1, 1, 1);
        x.say(2);
        readings(x, 0, 0, 0, 1, 2);
        readings(x, 1, 0, 1, 1, 2);
        x.hour(2);
        x.say(1);
        readings(x, 0, 1, 0, 1, 1);
        readings(x, 1, 1, 1, 1, 1);
        x.hour(2);
        readings(x, 0, 1, 1, 1, 1);
    }

    private static void sureByAllFour() {
        check.says("SURE: ROOMS (a SET) that would belong to the same HEIR by all four.");
        LastSentence x = Check.house("n2;r2;r2;d0 1 0;p0 1 0;p2 1 0;");
        check.due("told(9) nobody's", x.told(9), 0);
        x.say(0);
        check.due("told(9) by all but the second", x.told(9), 0);
        x.hour(1);
        x.say(0);
        check.due("told(9) all but through a door", x.told(9), 1);
        x.say(1);
        check.due("told(9) all but for themselves", x.told(9), 0);
        x.hour(1);
        check.due("told(9) belonging", x.told(9), 3);
        LastSentence six = Check.house("n1;r1;r1;r1;r1;r1;r1;p0 1 0;p0 1 1;p0 1 2;p0 1 3;p0 1 4;p0 1 5;");
        for (int p = 0; p < 6; p++) {
            six.say(p);
            check.due("told(9) of " + (p + 1), six.told(9), (2 << p) - 1);
        }
    }

    private static void worthOfRooms() {
        check.says("WORTH of a ROOM: how many HEIRS could be HEARD there, each from where he is.");
        LastSentence x = Check.house("n4;r0;r4;r4;d0 1 1;p0 1 0;p1 1 0;p2 2 0;p3 1 1;p4 2 1;p0 20 1;");
        check.due("room(0, 5), whatever the kind, in the dark", x.room(0, 5), 5);
        check.due("room(1, 5)", x.room(1, 5), 4);
        check.due("room(2, 5) nobody", x.room(2, 5), 0);
        x.go(0, 0);
        x.go(3, 0);
        check.due("room(0, 5)", x.room(0, 5), 5);
        x.go(3, 0);
        x.go(0, 0);
        x.go(4, 0);
        check.due("room(0, 5)", x.room(0, 5), 5);
        LastSentence all = Check.house("n4;r0;p0 1 0;p1 1 0;p2 1 0;p3 1 0;p4 1 0;p0 1 0;");
        check.due("room(0, 5) all six", all.room(0, 5), 6);
        check.due("room(0, 5) without heirs", Check.house("n1;r1;").room(0, 5), 0);
    }

    private static void theHolder() {
        check.says("THE HOLDER: the HEIR who has most ROOMS; of like ones the least; NONE: nobody has any.");
        LastSentence x = Check.house("n1;r1;r1;r1;r1;r1;r1;d0 1 0;p0 1 5;p0 1 4;p0 1 3;p0 1 2;p0 1 0;p3 1 0;");
        check.due("told(10) nobody has any", x.told(10), Check.NONE);
        x.say(5);
        check.due("told(10) a word is no belonging", x.told(10), Check.NONE);
        x.hour(1);
        check.due("told(10) one", x.told(10), 5);
        x.say(3);
        x.say(2);
        x.hour(1);
        check.due("told(10) the least of three like ones", x.told(10), 2);
        x.say(4);
        x.hour(1);
        check.due("told(10) the most", x.told(10), 4);
        check.due("heir(4, 5)", x.heir(4, 5), 3);
        check.due("heir(5, 5) has none any more", x.heir(5, 5), 0);
        x.say(0);
        x.say(1);
        x.hour(1);
        check.due("told(10) the most still", x.told(10), 4);
        x.say(5);
        x.hour(1);
        check.due("told(10) all have one, the least is heir 0", x.told(10), 0);
        LastSentence all = Check.house("n1;r1;r1;r1;r1;r1;r1;d0 1 0;d1 2 0;d2 3 0;d3 4 0;d4 5 0;p0 1 0;p0 1 0;");
        all.say(1);
        all.hour(1);
        check.due("heir(1, 5) all six", all.heir(1, 5), 63);
        check.due("told(10)", all.told(10), 1);
    }

    private static void quietNights() {
        check.says("QUIET: odds of n quiet nights (0 .. 60), each by q of a hundred (0 .. 100):"
            + " a BILLION times q / 100 each (cut).");
        LastSentence x = new LastSentence();
        for (int n = 0; n <= 60; n++) {
            for (int q = 0; q <= 100; q++) {
                check.due("quiet(" + n + ", " + q + ")", x.quiet(n, q), cutEach(n, q));
            }
        }
        check.due("quiet(0, 0)", x.quiet(0, 0), 1000000000);
        check.due("quiet(1, 0)", x.quiet(1, 0), 0);
        check.due("quiet(60, 100)", x.quiet(60, 100), 1000000000);
        check.due("quiet(60, 99) cut each time, not once", x.quiet(60, 99), 547156620);
        check.due("quiet(-1, 0)", x.quiet(-1, 0), Check.OUTSIDE);
        check.due("quiet(61, 0)", x.quiet(61, 0), Check.OUTSIDE);
        check.due("quiet(0, -1)", x.quiet(0, -1), Check.OUTSIDE);
        check.due("quiet(0, 101)", x.quiet(0, 101), Check.OUTSIDE);
    }

    private static int cutEach(int n, int q) {
        BigInteger odds = BigInteger.valueOf(1000000000);
        for (int i = 0; i < n; i++) {
            odds = odds.multiply(BigInteger.valueOf(q)).divide(BigInteger.valueOf(100));
        }
        return odds.intValueExact();
    }
}
