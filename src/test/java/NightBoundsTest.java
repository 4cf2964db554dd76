/** Each boundary case that section 2 (A NIGHT) and promises 6 to 16 name, by its sentence. */
public final class NightBoundsTest {
    private static final Check check = new Check("NightBoundsTest");

    public static void main(String[] args) {
        fromHourZeroOn();
        litWhileHoursAreLess();
        notPutOutThisNight();
        wallsBetween();
        heardWhereTheWallIsLess();
        awake();
        asleep();
        taught();
        writes();
        parrot();
        parrotBehindAWord();
        sayingsEachTime();
        ninetyThousand();
        goesBothWays();
        hoursWrap();
        morning();
        othersStay();
        nineThousandNights();
        putOut();
        litAgain();
        anotherCandle();
        fiveHundredAndTwelveCalls();
        check.end();
    }

    private static void fromHourZeroOn() {
        check.says("A NIGHT goes from HOUR 0 on.");
        for (int n = 1; n <= 20; n++) {
            LastSentence x = Check.house("n" + n + ";");
            check.due("told(5) at first", x.told(5), 0);
            check.due("told(6) at first", x.told(6), 0);
            for (int h = 1; h < n; h++) {
                check.due("hour(1)", x.hour(1), h);
                check.due("told(6)", x.told(6), 0);
            }
            check.due("hour(1): the last of " + n, x.hour(1), 0);
            check.due("told(6)", x.told(6), 1);
        }
    }

    private static void litWhileHoursAreLess() {
        check.says("The CANDLE of a ROOM is LIT while HOURS are less than what it burns");
        for (int c = 0; c <= 20; c++) {
            LastSentence x = Check.house("n20;r" + c + ";p0 1 0;");
            for (int h = 0; h < 20; h++) {
                int lit = h < c ? 1 : 0;
                check.due("told(8) at " + h + " of " + c, x.told(8), lit);
                check.due("heir(0, 4) at " + h + " of " + c, x.heir(0, 4), lit);
                x.hour(1);
            }
            check.due("told(8) the next night", x.told(8), c > 0 ? 1 : 0);
        }
        LastSentence six = Check.house("n6;r0;r1;r2;r5;r6;r20;");
        int[] due = {62, 60, 56, 56, 56, 48};
        for (int h = 0; h < 6; h++) {
            check.due("told(8) at " + h, six.told(8), due[h]);
            six.hour(1);
        }
    }

    private static void notPutOutThisNight() {
        check.says("if it was not put OUT this NIGHT");
        LastSentence x = Check.house("n3;r3;r3;p0 1 0;");
        x.out(0);
        check.due("told(8)", x.told(8), 2);
        check.due("room(0, 1)", x.room(0, 1), 1);
        check.due("room(1, 1)", x.room(1, 1), 0);
        check.due("say(0)", x.say(0), 0);
        x.hour(2);
        check.due("told(8) in the last hour", x.told(8), 2);
        check.due("room(0, 1)", x.room(0, 1), 1);
        x.hour(1);
        check.due("told(8) the next night", x.told(8), 3);
        check.due("room(0, 1)", x.room(0, 1), 0);
        check.due("say(0)", x.say(0), 1);
    }

    private static void wallsBetween() {
        check.says("(0 to itself; 99, if there is no way)");
        LastSentence x = Check.house("n1;r1;r1;r1;r1;d0 1 9;d1 2 9;p0 20 0;");
        for (int r = 0; r < 4; r++) {
            check.due("wall(" + r + ", " + r + ")", x.wall(r, r), 0);
        }
        for (int r = 0; r < 3; r++) {
            check.due("wall(" + r + ", 3)", x.wall(r, 3), 99);
            check.due("wall(3, " + r + ")", x.wall(3, r), 99);
        }
        check.due("wall(0, 2)", x.wall(0, 2), 18);
        check.due("wall(2, 0)", x.wall(2, 0), 18);
        check.due("heir(0, 3)", x.heir(0, 3), 7);
        check.says("the least sum of THICK of DOORS on a way from one to the other");
        LastSentence row = Check.house("n1;r1;r1;r1;r1;r1;r1;d0 1 9;d1 2 9;d2 3 9;d3 4 9;d4 5 9;");
        check.due("wall(0, 5) the thickest there is", row.wall(0, 5), 45);
        LastSentence open = Check.house("n1;r1;r1;r1;r1;r1;r1;d0 1 0;d1 2 0;d2 3 0;d3 4 0;d4 5 0;d0 5 9;");
        check.due("wall(0, 5) by open doors", open.wall(0, 5), 0);
        LastSentence like = Check.house("n1;r1;r1;r1;d0 1 9;d1 0 4;d0 1 5;d0 2 2;d2 1 2;");
        check.due("wall(0, 1) of several doors, of several ways", like.wall(0, 1), 4);
        LastSentence around = Check.house("n1;r1;r1;r1;d0 1 9;d1 0 5;d0 2 2;d2 1 2;");
        check.due("wall(0, 1) by the room between", around.wall(0, 1), 4);
        check.due("way(0, 1)", around.way(0, 1), 1);
    }

    private static void heardWhereTheWallIsLess() {
        check.says("HEARD is a word in all ROOMS to which the WALL is less than the VOICE.");
        for (int wall = 0; wall <= 27; wall++) {
            int first = Math.min(9, wall);
            int second = Math.min(9, wall - first);
            String walls = "d0 1 " + first + ";d1 2 " + second + ";d2 3 " + (wall - first - second) + ";";
            for (int voice = 1; voice <= 20; voice++) {
                LastSentence x = Check.house("n1;r1;r1;r1;r1;" + walls + "p0 " + voice + " 0;");
                check.due("wall(0, 3)", x.wall(0, 3), wall);
                check.due("heir(0, 3): a wall of " + wall + ", a voice of " + voice, x.heir(0, 3) >> 3, wall < voice ? 1 : 0);
                check.due("room(3, 5)", x.room(3, 5), wall < voice ? 1 : 0);
                check.due("heir(0, 4)", x.heir(0, 4) >> 3, wall < voice ? 1 : 0);
            }
        }
    }

    private static void awake() {
        check.says("0 (awake) in each ROOM where it is HEARD, whose CANDLE is LIT, it is the LAST word, his.");
        LastSentence x = Check.house("n4;r1;r0;r4;r4;d0 1 0;d1 2 0;d2 3 1;p0 1 0;p0 2 3;");
        check.due("say(0) at 0", x.say(0), 5);
        check.due("say(1) at 0", x.say(1), 13);
        check.due("room(0, 3)", x.room(0, 3), 1);
        check.due("room(1, 3)", x.room(1, 3), Check.NONE);
        x.hour(1);
        check.due("say(0) at 1, from the dark", x.say(0), 4);
        check.due("room(0, 3)", x.room(0, 3), 1);
        x.out(2);
        check.due("say(1)", x.say(1), 0);
        check.due("room(2, 3)", x.room(2, 3), 0);
    }

    private static void asleep() {
        check.says("1 (asleep) likewise, but just while HOURS are N / 2 or more.");
        for (int n = 1; n <= 20; n++) {
            LastSentence x = Check.house("n" + n + ";r20;r20;d0 1 0;p1 1 0;p0 1 0;");
            for (int h = 0; h < n; h++) {
                int due = h >= n / 2 ? 3 : 0;
                check.due("heir(0, 4) at " + h + " of " + n, x.heir(0, 4), due);
                check.due("say(0) at " + h + " of " + n, x.say(0), due);
                check.due("room(1, 3)", x.room(1, 3), due == 0 ? h == 0 ? Check.NONE : 1 : 0);
                x.say(1);
                x.hour(1);
            }
            check.due("say(0) the next night", x.say(0), n == 1 ? 3 : 0);
        }
        LastSentence dark = Check.house("n4;r2;r4;p1 1 0;");
        dark.hour(2);
        check.due("say(0) in the dark", dark.say(0), 0);
    }

    private static void taught() {
        check.says("2 (taught) likewise, but it is the word of HEIR 0.");
        LastSentence x = Check.house("n4;r4;r4;r1;d0 1 0;d0 2 1;p0 1 2;p2 1 0;p0 1 1;");
        check.due("say(1) at hour 0", x.say(1), 3);
        check.due("room(0, 3)", x.room(0, 3), 0);
        check.due("room(1, 3)", x.room(1, 3), 0);
        check.due("say(2)", x.say(2), 3);
        check.due("heir(1, 4)", x.heir(1, 4), 3);
        x.hour(4);
        check.due("heir(1, 5)", x.heir(1, 5), 0);
        check.due("heir(2, 5)", x.heir(2, 5), 3);
        x.say(1);
        x.out(0);
        check.due("say(2)", x.say(2), 2);
        check.due("say(1) not where it is out", x.say(1), 2);
        x.hour(4);
        check.due("heir(0, 5)", x.heir(0, 5), 3);
        check.due("heir(1, 5)", x.heir(1, 5), 0);
        LastSentence self = Check.house("n2;r2;p2 1 0;p2 1 0;");
        check.due("say(1)", self.say(1), 1);
        check.due("say(0) taught, heir 0 himself", self.say(0), 0);
        check.due("room(0, 3)", self.room(0, 3), 0);
    }

    private static void writes() {
        check.says("3 (one who writes) just in the ROOM where he is, LIT or not.");
        LastSentence x = Check.house("n4;r0;r4;d0 1 0;p3 20 0;p3 20 1;");
        check.due("heir(0, 3)", x.heir(0, 3), 3);
        check.due("say(0) never lit", x.say(0), 1);
        check.due("say(1) lit", x.say(1), 2);
        x.out(1);
        x.go(0, 0);
        check.due("say(0) put out", x.say(0), 2);
        x.go(1, 0);
        x.hour(3);
        check.due("say(1) in the last hour", x.say(1), 1);
        x.hour(1);
        check.due("room(0, 2)", x.room(0, 2), 1);
        check.due("room(1, 2)", x.room(1, 2), 0);
    }

    private static void parrot() {
        check.says("4 (a parrot) just in the ROOM where it is, if that is LIT and there was a word in it this NIGHT:"
            + " it is the parrot's then.");
        LastSentence x = Check.house("n4;r4;r4;r0;d0 1 0;d1 2 0;p4 20 0;p0 1 1;p3 1 2;");
        check.due("heir(0, 3)", x.heir(0, 3), 7);
        check.due("say(0) no word", x.say(0), 0);
        check.due("room(0, 3)", x.room(0, 3), Check.NONE);
        check.due("say(1)", x.say(1), 3);
        check.due("say(0) there alone", x.say(0), 1);
        check.due("room(0, 3)", x.room(0, 3), 0);
        check.due("room(1, 3)", x.room(1, 3), 1);
        check.due("say(0) behind its own", x.say(0), 0);
        x.say(1);
        x.out(0);
        check.due("say(0) not lit", x.say(0), 0);
        x.light(0);
        check.due("say(0) lit again", x.say(0), 1);
        x.go(0, 0);
        x.go(0, 1);
        check.due("say(2) a word in the dark", x.say(2), 4);
        check.due("say(0) in the dark", x.say(0), 0);
        x.candle(2, 1);
        check.due("say(0) by another candle", x.say(0), 4);
        x.go(0, 1);
        x.hour(4);
        check.due("room(1, 2)", x.room(1, 2), 1);
        check.due("say(0): a word of another night is none", x.say(0), 0);
    }

    private static void parrotBehindAWord() {
        check.says("there was a word in it this NIGHT");
        LastSentence x = Check.house("n4;r4;r4;d0 1 2;p4 1 0;p1 1 0;p4 1 0;p0 2 1;p3 1 0;");
        x.say(1);
        check.due("say(0): words said in sleep too early are none", x.say(0), 0);
        x.say(3);
        check.due("say(0): what was not heard is none", x.say(0), 0);
        x.say(2);
        check.due("say(0): a parrot's that did not count is none", x.say(0), 0);
        x.say(4);
        check.due("say(0): a written one is one", x.say(0), 1);
        check.due("say(2): another parrot's is one", x.say(2), 1);
    }

    private static void sayingsEachTime() {
        check.says("SAYINGS (0 at first) are one more each time, whether it counts or not.");
        LastSentence x = Check.house("n4;r4;r0;p0 1 0;p0 1 1;p4 1 0;p1 1 0;");
        check.due("told(7)", x.told(7), 0);
        x.say(0);
        check.due("told(7)", x.told(7), 1);
        check.due("say(0) again", x.say(0), 0);
        check.due("told(7)", x.told(7), 2);
        check.due("say(1) in the dark", x.say(1), 0);
        check.due("told(7)", x.told(7), 3);
        check.due("say(3) asleep too early", x.say(3), 0);
        check.due("told(7)", x.told(7), 4);
        x.say(4);
        check.due("told(7): what is refused is none", x.told(7), 4);
        x.hour(4);
        check.due("told(7) over nights", x.told(7), 4);
        check.due("say(2) a parrot without a word", x.say(2), 0);
        check.due("told(7)", x.told(7), 5);
        check.due("told(13): each is a deed", x.told(13), 9);
    }

    private static LastSentence talked(int sayings) {
        LastSentence x = Check.house("n20;r20;p0 1 0;p0 1 0;");
        for (int i = 0; i < sayings; i++) {
            x.say(i % 2);
        }
        return x;
    }

    private static void ninetyThousand() {
        check.says("SAID: COUNTS. UNKNOWN, FULL: SAYINGS are 90000 or more.");
        LastSentence x = talked(89999);
        check.due("told(7)", x.told(7), 89999);
        check.due("say(1) at 89999", x.say(1), 1);
        check.due("told(7)", x.told(7), 90000);
        check.refusedOf(() -> talked(90000), "say(0) at 90000", y -> y.say(0), Check.FULL);
        check.refusedOf(() -> talked(90000), "say(2) at 90000", y -> y.say(2), Check.UNKNOWN);
        check.refusedOf(() -> talked(90000), "say(-1) at 90000", y -> y.say(-1), Check.UNKNOWN);
        // by draws it goes on, so there can be more
        x.seed(0);
        x.drift(20);
        check.due("told(7) is above", x.told(7) > 90000 ? 1 : 0, 1);
        check.due("say(0) above 90000", x.say(0), Check.FULL);
        x.undo(21);
        check.due("told(7) undone", x.told(7), 89999);
        check.due("say(1)", x.say(1), 1);
    }

    private static void goesBothWays() {
        check.says("GOES: an HEIR goes by a DOOR to the ROOM behind it.");
        LastSentence x = Check.house("n4;r4;r4;r4;r4;r4;r4;d0 5 9;d5 4 9;d0 5 1;p0 1 0;p4 1 5;");
        check.due("go(0, 0)", x.go(0, 0), 5);
        check.due("go(0, 0) back", x.go(0, 0), 0);
        check.due("go(0, 1) not at it", x.go(0, 1), Check.NOT);
        check.due("go(0, 2) the other door", x.go(0, 2), 5);
        check.due("go(0, 1)", x.go(0, 1), 4);
        check.due("go(0, 0) not at it", x.go(0, 0), Check.NOT);
        check.due("go(1, 1) a parrot", x.go(1, 1), 4);
        check.due("heir(0, 2)", x.heir(0, 2), 4);
        check.due("heir(1, 2)", x.heir(1, 2), 4);
        check.due("told(13)", x.told(13), 5);
    }

    private static void hoursWrap() {
        check.says("HOURS are one more; when they are N, the NIGHT ends");
        for (int n = 1; n <= 20; n++) {
            for (int hours = 1; hours <= 20; hours++) {
                LastSentence x = Check.house("n" + n + ";");
                check.due("hour(" + hours + ") of " + n, x.hour(hours), hours % n);
                check.due("told(6)", x.told(6), hours / n);
                check.due("told(13)", x.told(13), hours);
                LastSentence y = Check.house("n" + n + ";r1;p0 1 0;");
                check.due("drift(" + hours + ") of " + n, y.drift(hours), hours % n);
                check.due("told(6)", y.told(6), hours / n);
                check.due("told(13)", y.told(13), hours);
            }
        }
    }

    private static void morning() {
        check.says("each ROOM in which there was a word this NIGHT belongs to whose word was LAST (others to whom they did;"
            + " to none at first), no words, all CANDLES not OUT, HOUR 0, NIGHTS one more.");
        LastSentence x = Check.house("n2;r2;r2;r2;r0;d0 1 0;p0 1 0;p0 1 1;p0 1 2;");
        for (int r = 0; r < 4; r++) {
            check.due("room(" + r + ", 2) at first", x.room(r, 2), Check.NONE);
        }
        x.say(0);
        x.say(1);
        x.say(2);
        x.out(0);
        x.out(2);
        x.out(3);
        x.hour(1);
        check.due("room(0, 2) not yet", x.room(0, 2), Check.NONE);
        check.due("room(0, 3)", x.room(0, 3), 1);
        check.due("room(0, 1)", x.room(0, 1), 1);
        check.due("hour(1)", x.hour(1), 0);
        int[] owners = {1, 1, 2, Check.NONE};
        for (int r = 0; r < 4; r++) {
            check.due("room(" + r + ", 2)", x.room(r, 2), owners[r]);
            check.due("room(" + r + ", 3)", x.room(r, 3), Check.NONE);
            check.due("room(" + r + ", 1)", x.room(r, 1), 0);
        }
        check.due("told(5)", x.told(5), 0);
        check.due("told(6)", x.told(6), 1);
        check.due("told(7) stays", x.told(7), 3);
    }

    private static void othersStay() {
        check.says("(others to whom they did; to none at first)");
        LastSentence x = Check.house("n2;r2;r2;p0 1 0;p0 1 1;p0 1 0;");
        x.say(0);
        x.say(1);
        x.hour(2);
        x.say(2);
        x.hour(2);
        check.due("room(0, 2) a new one", x.room(0, 2), 2);
        check.due("room(1, 2) the one it had", x.room(1, 2), 1);
        x.hour(20);
        check.due("room(0, 2) by quiet nights", x.room(0, 2), 2);
        check.due("room(1, 2) by quiet nights", x.room(1, 2), 1);
        check.due("told(6)", x.told(6), 12);
        // two nights end within one call: what was said counts for the first alone
        LastSentence y = Check.house("n2;r2;p0 1 0;p3 1 0;");
        y.say(0);
        check.due("hour(5)", y.hour(5), 1);
        check.due("told(6)", y.told(6), 2);
        check.due("room(0, 2)", y.room(0, 2), 0);
        check.due("room(0, 3)", y.room(0, 3), Check.NONE);
    }

    private static LastSentence oldHouse(int nights) {
        LastSentence x = Check.house("n1;r1;p0 1 0;");
        for (int left = nights; left > 0; left -= 20) {
            x.hour(Math.min(20, left));
        }
        return x;
    }

    private static void nineThousandNights() {
        check.says("FULL: NIGHTS are above 9000.");
        LastSentence x = oldHouse(9000);
        check.due("told(6)", x.told(6), 9000);
        check.due("hour(20) at 9000", x.hour(20), 0);
        check.due("told(6)", x.told(6), 9020);
        check.due("hour(1) at 9020", x.hour(1), Check.FULL);
        check.due("drift(1) at 9020", x.drift(1), Check.FULL);
        check.due("undo(19)", x.undo(19), 0);
        check.due("told(6)", x.told(6), 9001);
        check.due("hour(1) at 9001", x.hour(1), Check.FULL);
        check.due("drift(1) at 9001", x.drift(1), Check.FULL);
        check.due("say(0) at 9001", x.say(0), 1);
        check.due("undo(2)", x.undo(2), 0);
        check.due("drift(1) at 9000", x.drift(1), 0);
        check.due("drift(1) at 9001", x.drift(1), Check.FULL);
        LastSentence y = oldHouse(8999);
        check.due("hour(1) at 8999", y.hour(1), 0);
        check.due("drift(20) at 9000", y.drift(20), 0);
        check.due("told(6)", y.told(6), 9020);
        check.due("manor()", Check.tell(y, "n1;"), 0);
        check.due("hour(1) in a new manor", y.hour(1), 0);
    }

    private static void putOut() {
        check.says("Put OUT: 1 it was LIT, 0 not.");
        LastSentence x = Check.house("n4;r2;r0;");
        check.due("out(0)", x.out(0), 1);
        check.due("out(0) again", x.out(0), Check.NOT);
        check.due("out(1) one that never burns", x.out(1), 0);
        check.due("out(1) again", x.out(1), Check.NOT);
        check.due("told(13)", x.told(13), 2);
        x.hour(4);
        x.hour(1);
        check.due("out(0) in its last hour", x.out(0), 1);
        x.undo(1);
        x.hour(1);
        check.due("out(0) burnt down", x.out(0), 0);
        check.due("room(0, 1)", x.room(0, 1), 1);
    }

    private static void litAgain() {
        check.says("LIT AGAIN (OUT no more): 1 it is LIT then, 0 not.");
        LastSentence x = Check.house("n4;r2;r0;");
        check.due("light(0) not out", x.light(0), Check.NOT);
        x.out(0);
        x.out(1);
        check.due("light(1) one that never burns", x.light(1), 0);
        check.due("room(1, 1)", x.room(1, 1), 0);
        x.hour(1);
        check.due("light(0) in its last hour", x.light(0), 1);
        check.due("room(0, 1)", x.room(0, 1), 0);
        check.due("light(0) again", x.light(0), Check.NOT);
        x.out(0);
        x.hour(1);
        check.due("light(0) burnt down", x.light(0), 0);
        x.out(0);
        x.hour(2);
        check.due("light(0): a new night has none out", x.light(0), Check.NOT);
    }

    private static void anotherCandle() {
        check.says("A CANDLE becomes another (0 .. 20): what it was.");
        LastSentence x = Check.house("n20;r20;r3;");
        check.due("candle(0, 0)", x.candle(0, 0), 20);
        check.due("told(8)", x.told(8), 2);
        check.due("candle(0, -1)", x.candle(0, -1), Check.OUTSIDE);
        check.due("candle(0, 21)", x.candle(0, 21), Check.OUTSIDE);
        check.due("candle(0, 20)", x.candle(0, 20), 0);
        check.due("room(0, 0)", x.room(0, 0), 20);
        x.hour(5);
        check.due("candle(1, 5) at 5", x.candle(1, 5), 3);
        check.due("told(8)", x.told(8), 1);
        check.due("candle(1, 6) at 5", x.candle(1, 6), 5);
        check.due("told(8)", x.told(8), 3);
        check.due("candle(1, 6) the same again", x.candle(1, 6), 6);
        check.due("told(13): a deed, too", x.told(13), 10);
        x.out(1);
        x.candle(1, 20);
        check.due("room(1, 1): out all the same", x.room(1, 1), 1);
        check.due("told(8)", x.told(8), 1);
        x.hour(20);
        check.due("room(1, 0) the next night", x.room(1, 0), 20);
        check.due("told(8) the next night", x.told(8), 3);
    }

    private static void fiveHundredAndTwelveCalls() {
        check.says("An object is used for at most 512 calls after it has been made");
        LastSentence x = Check.house("n20;r20;p0 1 0;p0 1 0;");
        int calls = "n20;r20;p0 1 0;p0 1 0;".length() + 1;
        for (int i = 0; calls < 511; i++) {
            check.due("say(" + i % 2 + ")", x.say(i % 2), 1);
            calls++;
        }
        check.due("told(7), the 512th call", x.told(7), 511 - 23);
    }
}
