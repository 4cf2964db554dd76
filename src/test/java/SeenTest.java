/** Promises 22 to 27: see, couldBe, ask, write, judge, tear. */
public final class SeenTest {
    private static final Check check = new Check("SeenTest");

    public static void main(String[] args) {
        seen();
        seenWhereHeIsNow();
        contradicted();
        asked();
        written();
        torn();
        check.end();
    }

    private static final String ROW = "n4;r0;r4;r4;d0 1 3;d1 2 3;p0 1 0;p1 4 0;p2 7 0;p3 1 2;p4 4 2;";

    private static void seen() {
        LastSentence x = Check.house(ROW);
        check.due("couldBe() at first", x.couldBe(), 31);
        check.due("see(1, true)", x.see(1, true), 1);
        check.due("couldBe(), whatever the kind, lit or not", x.couldBe(), 22);
        check.due("see(0, true)", x.see(0, true), 2);
        check.due("couldBe()", x.couldBe(), 6);
        check.due("see(2, false)", x.see(2, false), 3);
        check.due("couldBe()", x.couldBe(), 2);
        check.due("see(2, false)", x.see(2, false), 4);
        check.due("see(2, false)", x.see(2, false), 5);
        check.refused(x, "see(3, true)", () -> x.see(3, true), Check.UNKNOWN);
        check.refused(x, "see(-1, false)", () -> x.see(-1, false), Check.UNKNOWN);
        check.due("see(2, false)", x.see(2, false), 6);
        check.refused(x, "see(2, false) when full", () -> x.see(2, false), Check.FULL);
        check.refused(x, "see(3, false) when full", () -> x.see(3, false), Check.UNKNOWN);
        check.due("told(11)", x.told(11), 6);
        check.due("told(13): no deed", x.told(13), 0);
    }

    private static void seenWhereHeIsNow() {
        LastSentence x = Check.house(ROW);
        x.see(2, true);
        check.due("couldBe()", x.couldBe(), 28);
        x.go(0, 0);
        x.go(0, 1);
        check.due("couldBe() when heir 0 has gone there", x.couldBe(), 29);
        x.undo(2);
        check.due("couldBe() undone", x.couldBe(), 28);
        x.hour(20);
        x.drift(1);
        check.due("told(11) stays", x.told(11), 1);
        x.keep(0);
        x.see(0, true);
        x.goBack(0);
        check.due("told(11) is not in an image", x.told(11), 2);
    }

    private static void contradicted() {
        LastSentence x = Check.house(ROW);
        x.see(1, true);
        x.see(1, false);
        check.due("couldBe() nobody", x.couldBe(), 0);
        check.due("ask() nobody to part", x.ask(), Check.NONE);
    }

    private static void asked() {
        LastSentence x = Check.house(ROW);
        // heard in 0: heirs 0 1 2; in 1: 1 2 4; in 2: 2 3 4
        check.due("ask() the least of like ones", x.ask(), 0);
        x.see(0, true);
        check.due("ask() among 0 1 2: rooms 1 and 2 part like", x.ask(), 1);
        x.see(1, true);
        check.due("ask() among 1 2", x.ask(), 2);
        x.see(2, true);
        check.due("couldBe()", x.couldBe(), 4);
        check.due("ask() one is left", x.ask(), Check.NONE);
        LastSentence y = Check.house("n1;r1;r1;r1;d0 1 0;p0 1 0;p0 1 0;p0 1 2;p0 1 2;p0 1 0;");
        check.due("ask()", y.ask(), 0);
        y.see(1, true);
        check.due("ask() none parts them", y.ask(), Check.NONE);
        LastSentence z = Check.house("n1;r1;r1;r1;r1;p0 1 1;p0 1 2;p0 1 3;p0 1 3;");
        check.due("ask() the greater part is least", z.ask(), 3);
        LastSentence nobody = Check.house("n1;r1;r1;");
        check.due("couldBe() without heirs", nobody.couldBe(), 0);
        check.due("ask() without heirs", nobody.ask(), Check.NONE);
    }

    private static void written() {
        LastSentence x = Check.house("n2;r2;r2;r2;p0 1 0;p0 1 1;");
        check.due("judge() no book", x.judge(), Check.NONE);
        check.due("write(2, NONE)", x.write(2, Check.NONE), 1);
        check.due("judge()", x.judge(), Check.NONE);
        check.due("write(0, 0)", x.write(0, 0), 2);
        check.due("judge()", x.judge(), 1);
        check.due("write(1, 1)", x.write(1, 1), 3);
        x.say(0);
        check.due("judge() a word alone is none's yet", x.judge(), 1);
        x.hour(2);
        check.due("judge() the entry, not the room", x.judge(), 2);
        x.say(1);
        x.hour(2);
        check.due("judge() all is so", x.judge(), Check.NONE);
        check.due("write(0, NONE)", x.write(0, Check.NONE), 4);
        check.due("judge()", x.judge(), 3);
        x.undo(5);
        check.due("judge() undone", x.judge(), 1);
        check.refused(x, "write(3, 0)", () -> x.write(3, 0), Check.UNKNOWN);
        check.refused(x, "write(-1, 0)", () -> x.write(-1, 0), Check.UNKNOWN);
        check.refused(x, "write(0, 2)", () -> x.write(0, 2), Check.UNKNOWN);
        check.refused(x, "write(0, -2)", () -> x.write(0, -2), Check.UNKNOWN);
        for (int i = 5; i <= 20; i++) {
            check.due("write(1, 1)", x.write(1, 1), i);
        }
        check.refused(x, "write(1, 1) when full", () -> x.write(1, 1), Check.FULL);
        check.refused(x, "write(1, 2) when full", () -> x.write(1, 2), Check.UNKNOWN);
        check.due("told(12)", x.told(12), 20);
        x.keep(0);
        x.tear();
        x.goBack(0);
        check.due("told(12) is not in an image", x.told(12), 0);
        LastSentence y = Check.house("n2;r2;r2;p0 1 0;p0 1 1;");
        for (int i = 0; i < 19; i++) {
            y.write(1, Check.NONE);
        }
        y.write(0, 1);
        check.due("judge() the last of twenty", y.judge(), 19);
    }

    private static void torn() {
        LastSentence x = Check.house("n2;r2;r2;p0 1 0;p0 1 1;");
        check.due("tear() nothing", x.tear(), 0);
        x.see(0, true);
        x.see(1, false);
        x.write(0, 1);
        x.say(0);
        check.due("couldBe()", x.couldBe(), 1);
        check.due("judge()", x.judge(), 0);
        check.due("tear()", x.tear(), 3);
        check.due("told(11)", x.told(11), 0);
        check.due("told(12)", x.told(12), 0);
        check.due("couldBe()", x.couldBe(), 3);
        check.due("judge()", x.judge(), Check.NONE);
        check.due("told(13) no deed", x.told(13), 1);
        check.due("tear() again", x.tear(), 0);
    }
}
