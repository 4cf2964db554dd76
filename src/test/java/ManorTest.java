/** Promises 1 to 8: a new object; feed, manor, fault, told, room, door, heir. */
public final class ManorTest {
    private static final Check check = new Check("ManorTest");
    private static final String FULL_HOUSE = "n6;r6;r4;r2;r0;d0 1 3;d1 2 2;d2 3 4;d0 3 9;"
        + "p0 5 0;p1 9 1;p2 3 2;p3 1 3;p4 20 0;p0 2 1;";

    public static void main(String[] args) {
        newObject();
        letters();
        textsThatStand();
        faults();
        faultChangesNothing();
        emptyText();
        newManorForgets();
        toldOfAll();
        lookedAt();
        check.end();
    }

    private static void newObject() {
        LastSentence x = new LastSentence();
        for (int what = 0; what <= 13; what++) {
            check.due("told(" + what + ") of a new object", x.told(what), what == 10 ? Check.NONE : 0);
        }
        check.due("fault()", x.fault(), Check.NONE);
        check.due("room(0, 0)", x.room(0, 0), Check.UNKNOWN);
        check.due("room(0, 9)", x.room(0, 9), Check.UNKNOWN);
        check.due("door(0, 0)", x.door(0, 0), Check.UNKNOWN);
        check.due("heir(0, 0)", x.heir(0, 0), Check.UNKNOWN);
        check.due("say(0)", x.say(0), Check.UNKNOWN);
        check.due("go(0, 0)", x.go(0, 0), Check.UNKNOWN);
        check.due("hour(1)", x.hour(1), Check.NOT);
        check.due("hour(0)", x.hour(0), Check.OUTSIDE);
        check.due("out(0)", x.out(0), Check.UNKNOWN);
        check.due("light(0)", x.light(0), Check.UNKNOWN);
        check.due("candle(0, 1)", x.candle(0, 1), Check.UNKNOWN);
        check.due("drift(1)", x.drift(1), Check.NOT);
        check.due("drift(21)", x.drift(21), Check.OUTSIDE);
        check.due("undo(1)", x.undo(1), Check.NOT);
        check.due("undo(31)", x.undo(31), Check.OUTSIDE);
        check.due("wall(0, 0)", x.wall(0, 0), Check.UNKNOWN);
        check.due("way(0, 0)", x.way(0, 0), Check.UNKNOWN);
        check.due("fewest(0, 0, 0)", x.fewest(0, 0, 0), Check.UNKNOWN);
        check.due("reading(0, 0)", x.reading(0, 0), Check.UNKNOWN);
        check.due("quiet(1, 50)", x.quiet(1, 50), 500000000);
        check.due("see(0, true)", x.see(0, true), Check.UNKNOWN);
        check.due("couldBe()", x.couldBe(), 0);
        check.due("ask()", x.ask(), Check.NONE);
        check.due("write(0, -1)", x.write(0, -1), Check.UNKNOWN);
        check.due("judge()", x.judge(), Check.NONE);
        check.due("tear()", x.tear(), 0);
        check.due("goBack(0)", x.goBack(0), Check.NOT);
        check.due("seed(5)", x.seed(5), 0);
        check.due("keep(0)", x.keep(0), 1);
        check.due("seed(6)", x.seed(6), 5);
        check.due("goBack(0)", x.goBack(0), 1);
        check.due("seed(7)", x.seed(7), 5);
        check.due("told(0)", x.told(0), 0);
    }

    private static void letters() {
        LastSentence x = new LastSentence();
        check.due("feed(-1)", x.feed(-1), Check.OUTSIDE);
        check.due("feed(256)", x.feed(256), Check.OUTSIDE);
        check.due("feed(MIN)", x.feed(Integer.MIN_VALUE), Check.OUTSIDE);
        check.due("told(4)", x.told(4), 0);
        check.due("feed(0)", x.feed(0), 1);
        check.due("feed(255)", x.feed(255), 2);
        for (int i = 3; i <= 240; i++) {
            check.due("feed(32)", x.feed(32), i);
        }
        check.due("told(4)", x.told(4), 240);
        check.due("feed(32) at 240", x.feed(32), Check.FULL);
        check.due("feed(256) at 240", x.feed(256), Check.OUTSIDE);
        check.due("told(4)", x.told(4), 240);
        check.due("manor()", x.manor(), -11);
        check.due("fault()", x.fault(), 0);
        check.due("told(4)", x.told(4), 0);
        check.due("feed('n')", x.feed('n'), 1);

        // a text of all 240 letters stands, and its last letter can be the fault
        check.due("manor()", x.manor(), -11);
        check.due("fault()", x.fault(), 1);
        String blanks = " ".repeat(236);
        check.due("a full text", Check.tell(x, blanks + "n20;"), 0);
        check.due("told(0)", x.told(0), 20);
        check.due("a full text without an end", Check.tell(x, blanks + " n20"), -11);
        check.due("fault()", x.fault(), 240);
        check.due("a full text with a bad end", Check.tell(x, blanks + "n20x"), -11);
        check.due("fault()", x.fault(), 239);
    }

    private static void stands(String text, int nightHours, int rooms, int doors, int heirs) {
        LastSentence x = new LastSentence();
        check.due("manor() of " + text, Check.tell(x, text), heirs);
        check.due("fault() of " + text, x.fault(), Check.NONE);
        check.due("told(0) of " + text, x.told(0), nightHours);
        check.due("told(1) of " + text, x.told(1), rooms);
        check.due("told(2) of " + text, x.told(2), doors);
        check.due("told(3) of " + text, x.told(3), heirs);
    }

    private static void textsThatStand() {
        stands("n1;", 1, 0, 0, 0);
        stands("n020;", 20, 0, 0, 0);
        stands("n001;r000;", 1, 1, 0, 0);
        stands("  n  7  ;  r 20 ; ", 7, 1, 0, 0);
        stands("n5;r1;r1;d 0 1 9;d1 0 0;", 5, 2, 2, 0);
        stands("n5;r1;p4 20 0;r2;p0 001 1;", 5, 2, 0, 2);
        stands("n5;r1;r1;d000 001 009;", 5, 2, 1, 0);
        stands("n1;r1;r1;r1;r1;r1;r1;", 1, 6, 0, 0);
        stands("n1;r1;r1;d0 1 1;d0 1 1;d0 1 1;d0 1 1;d0 1 1;d0 1 1;d0 1 1;d0 1 1;", 1, 2, 8, 0);
        stands("n1;r1;p0 1 0;p0 1 0;p0 1 0;p0 1 0;p0 1 0;p0 1 0;", 1, 1, 0, 6);
        stands(FULL_HOUSE, 6, 4, 4, 6);
    }

    private static void fails(String text, int kind, int at) {
        LastSentence x = new LastSentence();
        check.due("manor() of '" + text + "'", Check.tell(x, text), -10 - kind);
        check.due("fault() of '" + text + "'", x.fault(), at);
        check.due("told(4) after '" + text + "'", x.told(4), 0);
    }

    private static void faults() {
        fails("n", 1, 1);
        fails("n5", 1, 2);
        fails("n5 ", 1, 3);
        fails("n5x", 1, 2);
        fails("n5;;", 1, 3);
        fails(";", 1, 0);
        fails("r5;", 1, 0);
        fails("  d0 1 1;", 1, 2);
        fails("p0 1 0;", 1, 0);
        fails("5;", 1, 0);
        fails("N5;", 1, 0);
        fails("n;", 1, 1);
        fails("nn", 1, 1);
        fails("n5;rn", 1, 4);
        fails("n-5;", 1, 1);
        fails("n5\t;", 1, 2);
        fails("n5;7", 1, 3);
        fails("n5;x", 1, 3);
        fails("n5 6;", 1, 3);
        fails("n5 6666;", 1, 3);
        fails("n5;r1 2;", 1, 6);
        fails("n5;r1;r1;d0 1;", 1, 13);
        fails("n5;r1;r1;d01 1;", 4, 13);
        fails("n5;r1;r1;d0 1 1 1;", 1, 16);
        fails("n5;r1;r1;d0 1", 1, 13);
        fails("n5;r1;p0 1;", 1, 10);
        fails("n5;r1;p0;", 1, 8);
        fails("n5;r1;p;", 1, 7);
        fails("n5;r1;p0 1 0", 1, 12);
        fails("n" + (char) 178 + ";", 1, 1);

        fails("n0;", 2, 1);
        fails("n21;", 2, 1);
        fails("n 0001;", 2, 2);
        fails("n12345678901234567890;", 2, 1);
        fails("n99x", 2, 1);
        fails("n999", 2, 1);
        fails("n5;r21;", 2, 4);
        fails("n5;r0000;", 2, 4);
        fails("n5;d0 1 1;", 2, 4);
        fails("n5;r1;d1 0 1;", 2, 7);
        fails("n5;r1;d0 1 1;", 2, 9);
        fails("n5;r1;r1;d0 1 10;", 2, 14);
        fails("n5;r1;r1;d0 0001 1;", 2, 12);
        fails("n5;r1;r1;d0 2 1;r1;", 2, 12);
        fails("n5;p0 1 0;r1;", 2, 8);
        fails("n5;r1;p5 1 0;", 2, 7);
        fails("n5;r1;p0 0 0;", 2, 9);
        fails("n5;r1;p0 21 0;", 2, 9);
        fails("n5;r1;p0 1 1;", 2, 11);
        fails("n5;r1;p0 1 6;", 2, 11);

        fails("n5;n5;", 3, 3);
        fails("n5;r1;n", 3, 6);
        fails("n5; n x", 3, 4);
        fails("n1;r1;r1;r1;r1;r1;r1;r1;", 3, 21);
        fails("n1;r1;r1;r1;r1;r1;r1;r99", 3, 21);
        fails("n1;r1;p0 1 0;p0 1 0;p0 1 0;p0 1 0;p0 1 0;p0 1 0;p0 1 0;", 3, 48);
        fails("n1;r1;r1;d0 1 1;d0 1 1;d0 1 1;d0 1 1;d0 1 1;d0 1 1;d0 1 1;d0 1 1;d0 1 1;", 3, 65);

        fails("n5;r1;d0 0 1;", 4, 9);
        fails("n5;r1;d0   00 99;", 4, 11);
        fails("n5;r1;d0 0", 4, 9);
        fails("n5;r1;d0 0000 1;", 2, 9);
        fails("n5;r1;r1;d001 1 x", 4, 14);
    }

    private static void faultChangesNothing() {
        LastSentence x = Check.house(FULL_HOUSE);
        x.seed(12345);
        x.drift(7);
        x.see(0, true);
        x.write(1, 2);
        x.keep(1);
        x.say(0);
        x.out(1);
        String ahead = withoutFault(Check.look(x));
        check.due("a text at fault", Check.tell(x, "n5;r1;r21;"), -12);
        check.due("fault()", x.fault(), 7);
        check.same("after a text at fault", withoutFault(Check.look(x)), ahead);
        check.due("undo(2)", x.undo(2), 1);
        check.due("goBack(1)", x.goBack(1), 1);
        check.due("fault()", x.fault(), 7);
        check.due("the next text", Check.tell(x, "n5;"), 0);
        check.due("fault()", x.fault(), Check.NONE);
    }

    private static String withoutFault(String look) {
        String[] parts = look.split(", ");
        parts[parts.length - 2] = "";
        return String.join(", ", parts);
    }

    private static void emptyText() {
        for (String text : new String[] {"", " ", "     "}) {
            LastSentence x = Check.house(FULL_HOUSE);
            x.seed(9);
            x.say(0);
            x.keep(0);
            x.hour(7);
            check.due("manor() of blanks", Check.tell(x, text), 0);
            check.due("fault()", x.fault(), Check.NONE);
            for (int what = 0; what <= 13; what++) {
                check.due("told(" + what + ")", x.told(what), what == 10 ? Check.NONE : 0);
            }
            check.due("hour(1)", x.hour(1), Check.NOT);
            check.due("drift(1)", x.drift(1), Check.NOT);
            check.due("goBack(0)", x.goBack(0), Check.NOT);
            check.due("heir(0, 0)", x.heir(0, 0), Check.UNKNOWN);
            check.due("seed(0)", x.seed(0), 9);
        }
    }

    private static void newManorForgets() {
        LastSentence x = Check.house(FULL_HOUSE);
        x.seed(77);
        x.keep(0);
        x.keep(1);
        x.say(0);
        x.hour(6);
        x.candle(0, 1);
        x.out(1);
        x.go(0, 0);
        x.say(3);
        x.see(1, false);
        x.write(0, 0);
        check.due("told(13)", x.told(13), 11);
        LastSentence fresh = Check.house(FULL_HOUSE);
        fresh.seed(77);
        check.due("the same text again", Check.tell(x, FULL_HOUSE), 6);
        check.same("a manor told again", Check.look(x), Check.look(fresh));
        check.due("undo(1)", x.undo(1), Check.NOT);
        check.due("goBack(0)", x.goBack(0), Check.NOT);
        check.due("goBack(1)", x.goBack(1), Check.NOT);
        // what an earlier text told, or one at fault, is not in the next
        check.due("a text at fault", Check.tell(x, "n6;r6;r4;d0 1 3;p0 5 0;p1 9 1;x"), -11);
        check.due("another text", Check.tell(x, "n3;r1;p0 1 0;"), 1);
        check.same("another manor", Check.look(x), seeded(Check.house("n3;r1;p0 1 0;")));
        check.due("a third text", Check.tell(x, "n2;"), 0);
        check.same("a third manor", Check.look(x), seeded(Check.house("n2;")));
        check.due("blanks alone", Check.tell(x, " "), 0);
        check.same("no manor", Check.look(x), seeded(new LastSentence()));
    }

    private static String seeded(LastSentence x) {
        x.seed(77);
        return Check.look(x);
    }

    private static void toldOfAll() {
        LastSentence x = Check.house(FULL_HOUSE);
        check.due("told(-1)", x.told(-1), Check.OUTSIDE);
        check.due("told(14)", x.told(14), Check.OUTSIDE);
        check.due("told(MAX)", x.told(Integer.MAX_VALUE), Check.OUTSIDE);
        Check.feedAll(x, "n 5");
        check.due("told(4)", x.told(4), 3);
        x.say(0);
        x.say(1);
        check.due("told(7)", x.told(7), 2);
        x.out(0);
        check.due("told(8)", x.told(8), 6);
        x.hour(2);
        check.due("told(8) at 2", x.told(8), 2);
        check.due("told(5)", x.told(5), 2);
        x.hour(4);
        check.due("told(5)", x.told(5), 0);
        check.due("told(6)", x.told(6), 1);
        check.due("told(7)", x.told(7), 2);
        check.due("told(8) anew", x.told(8), 7);
        check.due("told(9): heir 0's both rooms", x.told(9), 3);
        check.due("told(10)", x.told(10), 0);
        check.due("told(13)", x.told(13), 9);
        x.see(0, true);
        x.see(0, true);
        x.write(0, 0);
        check.due("told(11)", x.told(11), 2);
        check.due("told(12)", x.told(12), 1);
        holders();
    }

    private static void holders() {
        LastSentence x = Check.house("n2;r2;r2;r2;r0;p0 1 0;p0 1 1;p0 1 2;p3 1 3;");
        check.due("told(10) nobody", x.told(10), Check.NONE);
        x.say(3);
        check.due("told(10) a word alone", x.told(10), Check.NONE);
        x.hour(2);
        check.due("told(10) one", x.told(10), 3);
        x.say(2);
        x.say(1);
        x.hour(2);
        check.due("told(10) the least of like ones", x.told(10), 1);
        x.say(2);
        LastSentence y = Check.house("n1;r1;r1;r1;d0 1 0;p0 1 2;p0 1 0;");
        y.say(0);
        y.say(1);
        y.hour(1);
        check.due("told(10) the most", y.told(10), 1);
        check.due("heir(1, 5)", y.heir(1, 5), 3);
        check.due("heir(0, 5)", y.heir(0, 5), 4);
    }

    private static void lookedAt() {
        LastSentence x = Check.house(FULL_HOUSE);
        int[] badRooms = {-1, 4, 6, Integer.MIN_VALUE, Integer.MAX_VALUE};
        for (int r : badRooms) {
            check.due("room(" + r + ", 0)", x.room(r, 0), Check.UNKNOWN);
            check.due("room(" + r + ", 6)", x.room(r, 6), Check.UNKNOWN);
            check.due("door(" + r + ", 0)", x.door(r, 0), Check.UNKNOWN);
            check.due("door(" + r + ", 3)", x.door(r, 3), Check.UNKNOWN);
        }
        check.due("heir(6, 0)", x.heir(6, 0), Check.UNKNOWN);
        check.due("heir(-1, 9)", x.heir(-1, 9), Check.UNKNOWN);
        check.due("room(0, 6)", x.room(0, 6), Check.OUTSIDE);
        check.due("room(0, -1)", x.room(0, -1), Check.OUTSIDE);
        check.due("door(0, 3)", x.door(0, 3), Check.OUTSIDE);
        check.due("door(0, -1)", x.door(0, -1), Check.OUTSIDE);
        check.due("heir(0, 6)", x.heir(0, 6), Check.OUTSIDE);
        check.due("heir(0, -1)", x.heir(0, -1), Check.OUTSIDE);
        int[][] doors = {{0, 1, 3}, {1, 2, 2}, {2, 3, 4}, {0, 3, 9}};
        for (int d = 0; d < 4; d++) {
            for (int what = 0; what < 3; what++) {
                check.due("door(" + d + ", " + what + ")", x.door(d, what), doors[d][what]);
            }
        }
        x.hour(3);
        check.due("heir(1, 4) asleep at half", x.heir(1, 4), 3);
        check.due("heir(4, 4) a parrot without a word", x.heir(4, 4), 0);
        check.due("heir(3, 4) one who writes in the dark", x.heir(3, 4), 8);
        x.say(1);
        check.due("room(0, 3)", x.room(0, 3), 1);
        check.due("room(0, 4)", x.room(0, 4), 1);
        check.due("room(0, 2)", x.room(0, 2), Check.NONE);
        check.due("heir(1, 4) his already", x.heir(1, 4), 0);
        check.due("heir(4, 4) a parrot behind a word", x.heir(4, 4), 1);
        x.hour(3);
        check.due("room(0, 2)", x.room(0, 2), 1);
        check.due("room(0, 3)", x.room(0, 3), Check.NONE);
        check.due("room(0, 4)", x.room(0, 4), 1);
        check.due("heir(1, 5)", x.heir(1, 5), 3);
        x.say(0);
        check.due("room(0, 2)", x.room(0, 2), 1);
        check.due("room(0, 4)", x.room(0, 4), 0);
        x.out(3);
        check.due("room(3, 1)", x.room(3, 1), 1);
        check.due("room(2, 1)", x.room(2, 1), 0);
        x.go(0, 0);
        check.due("heir(0, 2)", x.heir(0, 2), 1);
        check.due("room(2, 5) one more", x.room(2, 5), 4);
        x.candle(2, 11);
        check.due("room(2, 0)", x.room(2, 0), 11);
    }
}
