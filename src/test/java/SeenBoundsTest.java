/** Each boundary case that section 3 names for SEEN, THE BOOK and promises 22 to 27, by its sentence. */
public final class SeenBoundsTest {
    private static final Check check = new Check("SeenBoundsTest");

    public static void main(String[] args) {
        sixSeen();
        byHeardAlone();
        whereHeIsNow();
        couldBeAllOrNobody();
        askBest();
        askOfLikeOnes();
        askNone();
        twentyEntries();
        firstThatIsOtherwise();
        ofNobody();
        torn();
        stayOverDeeds();
        check.end();
    }

    private static void sixSeen() {
        check.says("SEEN (6 at most)");
        LastSentence x = Check.house("n1;r1;r1;p0 1 0;p0 1 1;");
        for (int i = 1; i <= 6; i++) {
            check.due("see(0, true)", x.see(0, true), i);
            check.due("told(11)", x.told(11), i);
        }
        check.due("see(1, true) the seventh", x.see(1, true), Check.FULL);
        check.due("see(0, false) the seventh", x.see(0, false), Check.FULL);
        check.due("told(11)", x.told(11), 6);
        check.due("couldBe(): the seventh is not among them", x.couldBe(), 1);
        LastSentence last = Check.house("n1;r1;r1;p0 1 0;p0 1 1;");
        for (int i = 1; i <= 5; i++) {
            last.see(0, true);
        }
        check.due("couldBe() of five", last.couldBe(), 1);
        last.see(1, true);
        check.due("couldBe(): the sixth is among them", last.couldBe(), 0);
        check.due("tear()", last.tear(), 6);
        check.due("see(1, true) when torn", last.see(1, true), 1);
        check.due("couldBe()", last.couldBe(), 2);
    }

    private static void byHeardAlone() {
        check.says("in a ROOM it was HEARD (by HEARD alone, LIT or not, whatever the KIND), or not");
        for (int kind = 0; kind <= 4; kind++) {
            LastSentence x = Check.house("n9;r0;r0;r0;d0 1 2;d1 2 1;p" + kind + " 3 0;");
            x.out(0);
            x.see(0, true);
            x.see(1, true);
            x.see(2, false);
            check.due("couldBe() of kind " + kind, x.couldBe(), 1);
            x.see(2, true);
            check.due("couldBe() of kind " + kind, x.couldBe(), 0);
        }
    }

    private static void whereHeIsNow() {
        check.says("one unknown HEIR, where he is now, SAID something once");
        LastSentence x = Check.house("n1;r1;r1;d0 1 1;p0 1 0;p0 1 1;");
        x.see(0, true);
        check.due("couldBe()", x.couldBe(), 1);
        x.go(1, 0);
        check.due("couldBe() both are there", x.couldBe(), 3);
        x.go(0, 0);
        check.due("couldBe() heir 0 is gone", x.couldBe(), 2);
        x.undo(2);
        check.due("couldBe() undone", x.couldBe(), 1);
        check.due("told(7): nothing is said by it", x.told(7), 0);
    }

    private static void couldBeAllOrNobody() {
        check.says("COULD BE: HEIRS (a SET) by whom all that is SEEN is so.");
        LastSentence x = Check.house("n1;r1;r1;p0 1 0;p0 1 0;p0 1 0;p0 1 0;p0 1 0;p0 1 0;");
        check.due("couldBe() nothing seen: all six", x.couldBe(), 63);
        x.see(0, true);
        check.due("couldBe()", x.couldBe(), 63);
        x.see(1, true);
        check.due("couldBe() nobody", x.couldBe(), 0);
        LastSentence y = Check.house("n1;r1;p0 1 0;");
        y.see(0, true);
        y.see(0, false);
        check.due("couldBe() of both at once", y.couldBe(), 0);
        check.due("couldBe() without heirs", Check.house("n1;r1;").couldBe(), 0);
        check.due("couldBe() without a manor", new LastSentence().couldBe(), 0);
    }

    private static void askBest() {
        check.says("ASK: the ROOM by which these are told apart best: the greater part is least");
        // room 0 parts five from one, room 1 four from two, room 2 three from three
        LastSentence x = Check.house("n1;r1;r1;r1;r1;r1;r1;d1 3 0;d2 4 0;d2 5 0;p0 1 0;p0 1 1;p0 1 3;p0 1 2;p0 1 4;p0 1 5;");
        check.due("heir(3, 3)", x.heir(3, 3), 52);
        check.due("ask()", x.ask(), 2);
        // the greater part may be those who are heard
        LastSentence y = Check.house("n1;r1;r1;r1;d0 1 0;p0 1 0;p0 1 1;p0 1 0;p0 1 2;p0 1 2;");
        check.due("ask() three heard, two not", y.ask(), 0);
        LastSentence z = Check.house("n1;r1;r1;r1;d0 1 1;d0 2 1;p0 2 1;p0 2 2;p0 1 1;p0 1 0;");
        // heard in 0: 0 1 3; in 1: 0 2; in 2: 1
        check.due("ask()", z.ask(), 1);
        z.see(1, true);
        check.due("ask() among 0 2", z.ask(), 0);
        z.tear();
        z.see(1, false);
        check.due("ask() among 1 3: room 0 does not part them", z.ask(), 2);
    }

    private static void askOfLikeOnes() {
        check.says("of like ones the least");
        LastSentence x = Check.house("n1;r1;r1;r1;r1;p0 1 3;p0 1 2;");
        check.due("ask() rooms 2 and 3 alike", x.ask(), 2);
        LastSentence y = Check.house("n1;r1;r1;r1;d0 2 0;p0 1 1;p0 1 0;");
        check.due("ask() all alike, told apart by who is heard or not", y.ask(), 0);
        LastSentence last = Check.house("n1;r1;r1;r1;r1;r1;r1;d4 5 1;p0 1 4;p0 2 4;");
        check.due("ask() the last room alone parts them", last.ask(), 5);
    }

    private static void askNone() {
        check.says("NONE: none parts them.");
        check.due("ask() without a manor", new LastSentence().ask(), Check.NONE);
        check.due("ask() without heirs", Check.house("n1;r1;r1;").ask(), Check.NONE);
        check.due("ask() of one", Check.house("n1;r1;r1;p0 1 0;").ask(), Check.NONE);
        check.due("ask() of two at one place", Check.house("n1;r1;r1;d0 1 3;p0 1 0;p0 3 0;").ask(), Check.NONE);
        check.due("ask() of two, one louder", Check.house("n1;r1;r1;d0 1 3;p0 1 0;p0 4 0;").ask(), 1);
        LastSentence x = Check.house("n1;r1;r1;p0 1 0;p0 1 1;");
        x.see(0, true);
        check.due("ask() one is left", x.ask(), Check.NONE);
        x.see(1, true);
        check.due("ask() nobody is left", x.ask(), Check.NONE);
    }

    private static void twentyEntries() {
        check.says("THE BOOK (20 at most)");
        LastSentence x = Check.house("n1;r1;r1;p0 1 0;p0 1 1;");
        for (int i = 1; i <= 20; i++) {
            check.due("write(0, NONE)", x.write(0, Check.NONE), i);
            check.due("told(12)", x.told(12), i);
        }
        check.due("write(0, 0) the 21st", x.write(0, 0), Check.FULL);
        check.due("write(1, NONE) the 21st", x.write(1, Check.NONE), Check.FULL);
        check.due("told(12)", x.told(12), 20);
        check.due("judge(): the 21st is not among them", x.judge(), Check.NONE);
        check.due("tear()", x.tear(), 20);
        for (int i = 1; i < 20; i++) {
            x.write(1, Check.NONE);
        }
        check.due("judge() of nineteen", x.judge(), Check.NONE);
        check.due("write(0, 1) the twentieth", x.write(0, 1), 20);
        check.due("judge(): the twentieth is among them", x.judge(), 19);
    }

    private static void firstThatIsOtherwise() {
        check.says("WRONG: the first that is otherwise now; NONE.");
        LastSentence x = Check.house("n1;r1;r1;r1;p0 1 2;p0 1 1;");
        check.due("judge() no entry", x.judge(), Check.NONE);
        x.write(2, 0);
        check.due("judge() entry 0, of room 2", x.judge(), 0);
        x.write(1, 1);
        check.due("judge() the first of two", x.judge(), 0);
        x.say(0);
        check.due("judge(): a word is no belonging yet", x.judge(), 0);
        x.hour(1);
        check.due("judge() entry 1", x.judge(), 1);
        x.say(1);
        x.hour(1);
        check.due("judge() all are so", x.judge(), Check.NONE);
        x.write(1, 0);
        check.due("judge() an entry against another", x.judge(), 2);
        x.undo(2);
        check.due("judge() as it is now", x.judge(), 1);
    }

    private static void ofNobody() {
        check.says("tells whose ROOMS are (NONE: nobody's)");
        LastSentence x = Check.house("n1;r1;p0 1 0;");
        check.due("write(0, NONE)", x.write(0, Check.NONE), 1);
        check.due("judge() nobody's, as written", x.judge(), Check.NONE);
        x.say(0);
        x.hour(1);
        check.due("judge() it is somebody's now", x.judge(), 0);
        x.tear();
        x.write(0, 0);
        check.due("judge()", x.judge(), Check.NONE);
    }

    private static void torn() {
        check.says("Nothing SEEN, no BOOK: how much both had.");
        check.due("tear() without a manor", new LastSentence().tear(), 0);
        LastSentence x = Check.house("n1;r1;r1;p0 1 0;p0 1 1;");
        check.due("tear() nothing", x.tear(), 0);
        x.see(0, true);
        check.due("tear() one seen", x.tear(), 1);
        x.write(0, 0);
        check.due("tear() one entry", x.tear(), 1);
        for (int i = 0; i < 21; i++) {
            x.see(0, true);
            x.write(0, 0);
        }
        check.due("tear() of both when full", x.tear(), 26);
        check.due("told(11)", x.told(11), 0);
        check.due("told(12)", x.told(12), 0);
        check.due("couldBe()", x.couldBe(), 3);
        check.due("judge()", x.judge(), Check.NONE);
        check.due("tear() again", x.tear(), 0);
        check.due("told(13): no deed", x.told(13), 0);
    }

    /** UNDONE and IMAGES are of section 2: what is seen and written is of section 3. */
    private static void stayOverDeeds() {
        check.says("IMAGES 0, 1 keep all of section 2, THE SEED.");
        LastSentence x = Check.house("n1;r1;r1;p0 1 0;p0 1 1;");
        x.keep(0);
        x.see(0, true);
        x.write(0, 0);
        x.hour(1);
        x.undo(1);
        check.due("told(11) over undo()", x.told(11), 1);
        check.due("told(12) over undo()", x.told(12), 1);
        x.goBack(0);
        check.due("told(11) over goBack()", x.told(11), 1);
        check.due("told(12) over goBack()", x.told(12), 1);
        x.keep(1);
        x.tear();
        x.goBack(1);
        check.due("told(11) torn stays torn", x.told(11), 0);
        check.due("told(12) torn stays torn", x.told(12), 0);
        x.see(0, true);
        x.write(0, 0);
        Check.tell(x, "n0;");
        check.due("told(11) over a text at fault", x.told(11), 1);
        check.due("told(12) over a text at fault", x.told(12), 1);
        Check.tell(x, "n1;r1;r1;");
        check.due("told(11) of a new manor", x.told(11), 0);
        check.due("told(12) of a new manor", x.told(12), 0);
    }
}
