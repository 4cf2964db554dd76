/** Each boundary case that section 1 (THE MANOR) and promises 1 to 5 name, by its sentence. */
public final class TextBoundsTest {
    private static final Check check = new Check("TextBoundsTest");

    public static void main(String[] args) {
        aNewObject();
        lettersTaken();
        twoHundredAndForty();
        nightHours();
        nightFirstAndOnce();
        roomsAndCandles();
        doorsAtMost();
        doorsBetween();
        doorsThick();
        heirsAtMost();
        heirsByKindAndVoice();
        heirsInRoomsToldAhead();
        figures();
        blanks();
        sideBySide();
        cannotStand();
        theEnd();
        firstLetterOfFault();
        leastOfFaults();
        emptyTexts();
        textIsEmptyThen();
        allIsAsItWas();
        becomesTheManor();
        latestFault();
        theFullestManor();
        check.end();
    }

    private static void stands(String text, int heirs) {
        LastSentence x = new LastSentence();
        check.due("manor() of '" + text + "'", Check.tell(x, text), heirs);
        check.due("fault() of '" + text + "'", x.fault(), Check.NONE);
    }

    private static void fails(String text, int kind, int at) {
        LastSentence x = new LastSentence();
        check.due("manor() of '" + text + "'", Check.tell(x, text), -10 - kind);
        check.due("fault() of '" + text + "'", x.fault(), at);
        check.due("told(0) after '" + text + "'", x.told(0), 0);
    }

    /** A text that begins well and has its fault at the letter behind the beginning. */
    private static void failsBehind(String good, String rest, int kind) {
        fails(good + rest, kind, good.length());
    }

    private static void aNewObject() {
        check.says("`LastSentence()`: No MANOR.");
        LastSentence x = new LastSentence();
        for (int what = 0; what <= 13; what++) {
            check.due("told(" + what + ")", x.told(what), what == 10 ? Check.NONE : 0);
        }
        check.due("fault()", x.fault(), Check.NONE);
        check.due("room(0, 0)", x.room(0, 0), Check.UNKNOWN);
        check.due("door(0, 0)", x.door(0, 0), Check.UNKNOWN);
        check.due("heir(0, 0)", x.heir(0, 0), Check.UNKNOWN);
        check.due("hour(1)", x.hour(1), Check.NOT);
        check.due("undo(1)", x.undo(1), Check.NOT);
        check.due("goBack(0)", x.goBack(0), Check.NOT);
        check.due("goBack(1)", x.goBack(1), Check.NOT);
        check.due("seed(0)", x.seed(0), 0);
    }

    private static void lettersTaken() {
        check.says("A letter (0 .. 255) comes behind THE TEXT: how many it has. OUTSIDE, FULL (240).");
        LastSentence x = new LastSentence();
        check.due("feed(-1)", x.feed(-1), Check.OUTSIDE);
        check.due("feed(0)", x.feed(0), 1);
        check.due("feed(255)", x.feed(255), 2);
        check.due("feed(256)", x.feed(256), Check.OUTSIDE);
        check.due("feed(MIN)", x.feed(Integer.MIN_VALUE), Check.OUTSIDE);
        check.due("feed(MAX)", x.feed(Integer.MAX_VALUE), Check.OUTSIDE);
        check.due("told(4)", x.told(4), 2);
        LastSentence y = new LastSentence();
        // what a letter is by eight bits is not looked at: 256 + 'n' is no 'n'
        check.due("feed(256 + 'n')", y.feed(256 + 'n'), Check.OUTSIDE);
        check.due("feed('n')", y.feed('n'), 1);
        check.due("feed(256 + '5')", y.feed(256 + '5'), Check.OUTSIDE);
        check.due("feed('7')", y.feed('7'), 2);
        check.due("feed(';')", y.feed(';'), 3);
        check.due("manor()", y.manor(), 0);
        check.due("told(0)", y.told(0), 7);
    }

    private static void twoHundredAndForty() {
        check.says("THE MANOR is told in a text (240 letters at most), letter by letter");
        LastSentence x = new LastSentence();
        Check.feedAll(x, " ".repeat(235) + "n12;");
        check.due("told(4)", x.told(4), 239);
        check.due("feed(' ') the 240th", x.feed(' '), 240);
        check.due("feed('x') the 241st", x.feed('x'), Check.FULL);
        check.due("feed(0) the 241st", x.feed(0), Check.FULL);
        check.due("feed(255) the 241st", x.feed(255), Check.FULL);
        check.due("feed(256) when full", x.feed(256), Check.OUTSIDE);
        check.due("feed(-1) when full", x.feed(-1), Check.OUTSIDE);
        check.due("told(4)", x.told(4), 240);
        check.due("manor(): what was refused is not in it", x.manor(), 0);
        check.due("told(0)", x.told(0), 12);
        check.due("feed('n') the next text", x.feed('n'), 1);
        LastSentence y = new LastSentence();
        check.due("the last letter is read", Check.tell(y, " ".repeat(239) + "x"), -11);
        check.due("fault()", y.fault(), 239);
        check.due("the end of a full text", Check.tell(y, " ".repeat(239) + "n"), -11);
        check.due("fault()", y.fault(), 240);
    }

    private static void nightHours() {
        check.says("'n' N ';' (a NIGHT has N HOURS, 1 .. 20; first, once)");
        for (int n = 1; n <= 20; n++) {
            LastSentence x = Check.house("n" + n + ";");
            check.due("told(0) of n" + n, x.told(0), n);
        }
        fails("n0;", 2, 1);
        fails("n00;", 2, 1);
        fails("n21;", 2, 1);
        fails("n999;", 2, 1);
        fails("n-1;", 1, 1);
    }

    private static void nightFirstAndOnce() {
        check.says("another word first than 'n'");
        fails("r1;n1;", 1, 0);
        fails("d0 1 1;n1;", 1, 0);
        fails(" p0 1 0;n1;", 1, 1);
        check.says("3 'n' again, a seventh 'r', 'p', a ninth 'd' (at it).");
        failsBehind("n1;", "n1;", 3);
        failsBehind("n1;r1; ", "n1;", 3);
        failsBehind("n1;r1;p0 1 0;", "n", 3);
        failsBehind("n20; ", "n;", 3);
    }

    private static void roomsAndCandles() {
        check.says("'r' C ';' (6 ROOMS at most: its CANDLE burns C HOURS of each NIGHT, 0 .. 20)");
        String text = "n1;";
        for (int rooms = 0; rooms <= 6; rooms++) {
            check.due("told(1)", Check.house(text).told(1), rooms);
            text += rooms < 6 ? "r1;" : "";
        }
        failsBehind(text, "r1;", 3);
        failsBehind(text, "r", 3);
        failsBehind(text, "r21;", 3);
        failsBehind(text + "p0 1 5;", "r1;", 3);
        for (int c = 0; c <= 20; c++) {
            check.due("room(0, 0) of r" + c, Check.house("n9;r" + c + ";").room(0, 0), c);
        }
        failsBehind("n9;r", "21;", 2);
        failsBehind("n9;r", "100;", 2);
        failsBehind("n9;r", "-1;", 1);
        failsBehind("n9;r20;r0;r", "21;", 2);
    }

    private static void doorsAtMost() {
        check.says("'d' A B T ';' (8 DOORS at most: between ROOM A and B told ahead, another one; THICK by T, 0 .. 9)");
        String text = "n1;r1;r1;";
        for (int doors = 0; doors <= 8; doors++) {
            check.due("told(2)", Check.house(text).told(2), doors);
            text += doors < 8 ? "d" + doors % 2 + " " + (1 - doors % 2) + " " + doors + ";" : "";
        }
        LastSentence x = Check.house(text);
        for (int d = 0; d < 8; d++) {
            check.due("door(" + d + ", 0)", x.door(d, 0), d % 2);
            check.due("door(" + d + ", 1)", x.door(d, 1), 1 - d % 2);
            check.due("door(" + d + ", 2)", x.door(d, 2), d);
        }
        failsBehind(text, "d0 1 1;", 3);
        failsBehind(text, "d", 3);
        failsBehind(text, "d0 0 1;", 3);
        failsBehind(text + "r1;", "d7 7 77;", 3);
    }

    private static void doorsBetween() {
        check.says("a ROOM that there is not (at its first)");
        failsBehind("n1;d", "0 1 1;r1;r1;", 2);
        failsBehind("n1;r1;d", "1 0 1;r1;", 2);
        failsBehind("n1;r1;d0 ", "1 1;r1;", 2);
        failsBehind("n1;r1;r1;d1 ", "2 1;", 2);
        failsBehind("n1;r1;r1;d", "2 1 1;", 2);
        failsBehind("n1;r1;r1;r1;r1;r1;r1;d", "6 1 1;", 2);
        failsBehind("n1;r1;r1;r1;r1;r1;r1;d5 ", "6 1;", 2);
        failsBehind("n1;r1;r1;d0 ", "002 1;", 2);
        stands("n1;r1;r1;d0 1 1;", 0);
        stands("n1;r1;r1;d1 0 1;", 0);
        stands("n1;r1;r1;r1;r1;r1;r1;d5 0 1;d4 5 1;", 0);
        check.says("4 the ROOM itself (at the B).");
        failsBehind("n1;r1;d0 ", "0 1;", 4);
        failsBehind("n1;r1;r1;d1 ", "1 1;", 4);
        failsBehind("n1;r1;r1;d001 ", "1 1;", 4);
        failsBehind("n1;r1;r1;r1;r1;r1;r1;d5   ", "05 1;", 4);
        failsBehind("n1;r1;d0 ", "0 10;", 4);
        failsBehind("n1;r1;d0 ", "0", 4);
    }

    private static void doorsThick() {
        check.says("THICK by T, 0 .. 9");
        for (int t = 0; t <= 9; t++) {
            check.due("door(0, 2) of T " + t, Check.house("n1;r1;r1;d0 1 " + t + ";").door(0, 2), t);
        }
        failsBehind("n1;r1;r1;d0 1 ", "10;", 2);
        failsBehind("n1;r1;r1;d0 1 ", "999;", 2);
        failsBehind("n1;r1;r1;d0 1 ", "-1;", 1);
        failsBehind("n1;r1;r1;d0 1", ";", 1);
        stands("n1;r1;r1;d0 1 009;", 0);
    }

    private static void heirsAtMost() {
        check.says("'p' K V R ';' (6 HEIRS at most: KIND K, 0 .. 4; VOICE V, 1 .. 20; is in ROOM R told ahead)");
        String text = "n1;r1;";
        for (int heirs = 0; heirs <= 6; heirs++) {
            LastSentence x = new LastSentence();
            check.due("manor() of " + heirs + " heirs", Check.tell(x, text), heirs);
            check.due("told(3)", x.told(3), heirs);
            text += heirs < 6 ? "p0 1 0;" : "";
        }
        failsBehind(text, "p0 1 0;", 3);
        failsBehind(text, "p", 3);
        failsBehind(text, "p5 0 9;", 3);
        failsBehind(text + "r1;", "p0 1 1;", 3);
    }

    private static void heirsByKindAndVoice() {
        check.says("KIND K, 0 .. 4; VOICE V, 1 .. 20");
        for (int k = 0; k <= 4; k++) {
            check.due("heir(0, 0) of K " + k, Check.house("n1;r1;p" + k + " 1 0;").heir(0, 0), k);
        }
        failsBehind("n1;r1;p", "5 1 0;", 2);
        failsBehind("n1;r1;p", "999 1 0;", 2);
        failsBehind("n1;r1;p", "-1 1 0;", 1);
        for (int v = 1; v <= 20; v++) {
            check.due("heir(0, 1) of V " + v, Check.house("n1;r1;p0 " + v + " 0;").heir(0, 1), v);
        }
        failsBehind("n1;r1;p0 ", "0 0;", 2);
        failsBehind("n1;r1;p0 ", "21 0;", 2);
        failsBehind("n1;r1;p4 ", "000 0;", 2);
    }

    private static void heirsInRoomsToldAhead() {
        check.says("is in ROOM R told ahead");
        for (int r = 0; r < 6; r++) {
            check.due("heir(0, 2)", Check.house("n1;r1;r1;r1;r1;r1;r1;p0 1 " + r + ";").heir(0, 2), r);
        }
        failsBehind("n1;r1;r1;r1;r1;r1;r1;p0 1 ", "6;", 2);
        failsBehind("n1;p0 1 ", "0;r1;", 2);
        failsBehind("n1;r1;p0 1 ", "1;r1;", 2);
        stands("n1;r1;p0 1 0;r1;p0 1 1;", 2);
    }

    private static void figures() {
        check.says("NUMBERS have one to three figures");
        stands("n5;", 0);
        stands("n05;", 0);
        stands("n005;", 0);
        failsBehind("n", ";", 1);
        failsBehind("n", "r", 1);
        stands("n1;r000;", 0);
        stands("n001;r020;r020;d000 001 009;p004 020 001;", 1);
        check.says("2 a NUMBER of four figures or more, or out of its bounds; a ROOM that there is not (at its first).");
        failsBehind("n", "0005;", 2);
        failsBehind("n", "00005;", 2);
        failsBehind("n", "1000", 2);
        failsBehind("n1;r", "0000;", 2);
        failsBehind("n1;r1;r1;d", "0000 1 1;", 2);
        failsBehind("n1;r1;r1;d0 ", "0001 1;", 2);
        failsBehind("n1;r1;r1;d0 1 ", "0001;", 2);
        failsBehind("n1;r1;p", "0000 1 0;", 2);
        failsBehind("n1;r1;p0 ", "0001 0;", 2);
        failsBehind("n1;r1;p0 1 ", "0000;", 2);
        // figures that would come out within bounds if they ran over 32 or 64 bits, or were cut
        failsBehind("n", "4294967297;", 2);
        failsBehind("n", "18446744073709551617;", 2);
        failsBehind("n", "0051;", 2);
        failsBehind("n", "5".repeat(239), 2);
        // the figures are 48 .. 57: the letters beside them are none
        failsBehind("n", "/;", 1);
        failsBehind("n", ":;", 1);
        failsBehind("n1", "/;", 1);
        failsBehind("n1", ":;", 1);
        failsBehind("n1", (char) 178 + ";", 1);
        stands("n10;r9;", 0);
    }

    private static void blanks() {
        check.says("blanks (32) may stand anywhere but within NUMBERS");
        stands("   n   5   ;   r   1   ;   r 1 ; d   0   1   1   ;   p   0   1   0   ;   ", 1);
        stands("n 5 ;r 1 ;r 1;d 0 1 1 ;p 0 1 0 ;", 1);
        LastSentence x = Check.house(" n 1;");
        check.due("told(0)", x.told(0), 1);
        failsBehind("n1 ", "2;", 1);
        failsBehind("n1;r1 ", "2;", 1);
        for (int letter : new int[] {0, 9, 10, 11, 12, 13, 31, 33, 160, 255}) {
            failsBehind("", (char) letter + "n1;", 1);
            failsBehind("n", (char) letter + "1;", 1);
            failsBehind("n1", (char) letter + ";", 1);
            failsBehind("n1;", "" + (char) letter, 1);
        }
    }

    private static void sideBySide() {
        check.says("two NUMBERS side by side need one.");
        failsBehind("n1;r1;r1;d", "011;", 2);
        failsBehind("n1;r1;r1;d01 ", "1;", 4);
        failsBehind("n1;r1;r1;d0 ", "11;", 2);
        failsBehind("n1;r1;r1;d0 1", ";", 1);
        failsBehind("n1;r1;r1;p0 1", ";", 1);
        failsBehind("n1;r1;r1;p", "010;", 2);
        stands("n1;r1;r1;d0 1 1;", 0);
        stands("n1;r1;r1;d0  1   1;", 0);
        // a word and a NUMBER need none, nor does a NUMBER ahead of the end of its clause
        stands("n1;r1;p0 1 0;", 1);
    }

    private static void cannotStand() {
        check.says("1 it cannot stand there (a letter that is no word, another word first than 'n').");
        for (int letter = 0; letter <= 255; letter++) {
            char c = (char) letter;
            if (c != ' ' && c != 'n') {
                failsBehind("", c + "n1;", 1);
            }
            if (" nrdp".indexOf(c) < 0) {
                failsBehind("n1;r1;", c + "n1;", 1);
            }
            if (c != ' ' && c != ';' && (c < '0' || c > '9')) {
                failsBehind("n1", c + ";", 1);
            }
        }
        failsBehind("n1;", ";", 1);
        failsBehind("", ";", 1);
        failsBehind("n1;", "1;", 1);
        failsBehind("n1;", "N1;", 1);
        failsBehind("n1;", "R1;", 1);
        failsBehind("n1;r1;r1;d0 1 1 ", "1;", 1);
        failsBehind("n1;r1;p0 1 0 ", "0;", 1);
        failsBehind("n1;r1;p0 1 0", "r1;", 1);
    }

    private static void theEnd() {
        check.says("(the end at the text's length)");
        String text = "n1;r1;r1;d0 1 1;p0 1 0;";
        for (int length = 1; length < text.length(); length++) {
            String cut = text.substring(0, length);
            if (cut.endsWith(";")) {
                LastSentence x = new LastSentence();
                check.due("fault() of '" + cut + "'", Check.tell(x, cut) < 0 ? 0 : x.fault(), Check.NONE);
            } else {
                fails(cut, 1, length);
                fails(cut + "  ", 1, length + 2);
            }
        }
    }

    private static void firstLetterOfFault() {
        check.says("FAULTS, at the first letter that has one");
        failsBehind("n", "0;r99;x", 2);
        failsBehind("n1;", "x r99;n", 1);
        failsBehind("n1;", "n0;x", 3);
        failsBehind("n1;r1;d0 ", "0 99;x", 4);
        failsBehind("n", "21", 2);
        failsBehind("n", "21x", 2);
        failsBehind("n1;r1;r1;d", "2 2 10;", 2);
        failsBehind("n1;r1;p", "5 0 1;", 2);
        failsBehind("n1;r1;p0 ", "0 1;", 2);
    }

    private static void leastOfFaults() {
        check.says("of these the least");
        // 1 and 2: a NUMBER where none can stand, too long at that
        failsBehind("", "0000;", 1);
        failsBehind("n1;", "99999;", 1);
        failsBehind("n1 ", "1234;", 1);
        failsBehind("n1;r1;p0 1 0 ", "9999;", 1);
        // 1 and 3: 'n' again, a seventh 'r' where no word can stand
        failsBehind("n", "n1;", 1);
        failsBehind("n1;r", "n1;", 1);
        failsBehind("n1;r1;r1;r1;r1;r1;r1;p0 1 ", "r1;", 1);
        failsBehind("n1;r1;r1;r1;r1;r1;r1", "r1;", 1);
        // 2 and 4: the ROOM itself, by too many figures
        failsBehind("n1;r1;d0 ", "0000 1;", 2);
        failsBehind("n1;r1;r1;d1 ", "0001 1;", 2);
    }

    private static void emptyTexts() {
        check.says("An empty text (or one of blanks alone): no MANOR.");
        for (int blanks : new int[] {0, 1, 2, 239, 240}) {
            LastSentence x = Check.house("n6;r6;r4;d0 1 3;p0 5 0;p1 9 1;");
            x.seed(9);
            x.keep(0);
            x.say(0);
            x.see(0, true);
            x.write(0, 0);
            check.due("manor() of " + blanks + " blanks", Check.tell(x, " ".repeat(blanks)), 0);
            check.due("fault()", x.fault(), Check.NONE);
            for (int what = 0; what <= 13; what++) {
                check.due("told(" + what + ")", x.told(what), what == 10 ? Check.NONE : 0);
            }
            check.due("hour(1)", x.hour(1), Check.NOT);
            check.due("drift(1)", x.drift(1), Check.NOT);
            check.due("room(0, 0)", x.room(0, 0), Check.UNKNOWN);
            check.due("door(0, 0)", x.door(0, 0), Check.UNKNOWN);
            check.due("heir(0, 0)", x.heir(0, 0), Check.UNKNOWN);
            check.due("undo(1)", x.undo(1), Check.NOT);
            check.due("goBack(0)", x.goBack(0), Check.NOT);
            check.due("seed(0)", x.seed(0), 9);
        }
    }

    private static void textIsEmptyThen() {
        check.says("THE TEXT (it is empty then, with a FAULT, too) becomes THE MANOR");
        LastSentence x = new LastSentence();
        Check.feedAll(x, "n4;r");
        check.due("told(4)", x.told(4), 4);
        check.due("manor() at fault", x.manor(), -11);
        check.due("told(4)", x.told(4), 0);
        check.due("manor() of the rest alone", Check.tell(x, "5;"), -11);
        check.due("fault()", x.fault(), 0);
        check.due("manor() that stands", Check.tell(x, "n4;r4;"), 0);
        check.due("told(4)", x.told(4), 0);
        check.due("manor() again: of no letters", x.manor(), 0);
        check.due("told(0)", x.told(0), 0);
        check.due("feed('n')", x.feed('n'), 1);
        x.say(0);
        check.due("told(4): a deed leaves THE TEXT", x.told(4), 1);
        Check.feedAll(x, "3;");
        check.due("manor()", x.manor(), 0);
        check.due("told(0)", x.told(0), 3);
    }

    private static LastSentence lived() {
        LastSentence x = Check.house("n6;r6;r4;r2;r0;d0 1 3;d1 2 2;d2 3 4;d0 3 9;p0 5 0;p1 9 1;p2 3 2;p3 1 3;p4 20 0;p0 2 1;");
        x.seed(20261118);
        x.drift(20);
        x.keep(0);
        x.drift(9);
        x.keep(1);
        x.hour(3);
        x.say(1);
        x.out(1);
        x.candle(3, 20);
        x.see(0, true);
        x.see(1, false);
        x.write(0, 0);
        x.write(1, Check.NONE);
        return x;
    }

    private static void allIsAsItWas() {
        check.says("-10 less the number of its FAULT (all is as it was)");
        String[] texts = {"x", "n0;", "n5;n", "n5;r1;d0 0 1;", "n5;r1;r2;d0 1 1;p0 1 0;x"};
        int[] due = {-11, -12, -13, -14, -11};
        for (int i = 0; i < texts.length; i++) {
            LastSentence x = lived();
            check.due("manor() of " + texts[i], Check.tell(x, texts[i]), due[i]);
            LastSentence never = lived();
            check.same("all that can be looked at", withoutFault(Check.look(x)), withoutFault(Check.look(never)));
            for (int k = never.told(13); k > 0; k--) {
                check.due("undo(1)", x.undo(1), never.undo(1));
                check.same("undone", withoutFault(Check.look(x)), withoutFault(Check.look(never)));
            }
            for (int k = 0; k < 2; k++) {
                check.due("goBack(" + k + ")", x.goBack(k), never.goBack(k));
                check.same("gone back", withoutFault(Check.look(x)), withoutFault(Check.look(never)));
            }
        }
    }

    private static String withoutFault(String look) {
        String[] parts = look.split(", ");
        parts[parts.length - 2] = "";
        return String.join(", ", parts);
    }

    private static void becomesTheManor() {
        check.says("(NIGHT 0, HOUR 0, all as told, no words, nobody has anything; nothing SEEN, no BOOK;"
            + " IMAGES, what could be undone are gone; THE SEED stays)");
        String text = "n6;r6;r4;r2;r0;d0 1 3;d1 2 2;d2 3 4;d0 3 9;p0 5 0;p1 9 1;p2 3 2;p3 1 3;p4 20 0;p0 2 1;";
        LastSentence x = lived();
        LastSentence fresh = Check.house(text);
        int seed = x.seed(0);
        x.seed(seed);
        fresh.seed(seed);
        check.due("manor() of the same text", Check.tell(x, text), 6);
        check.same("a manor told anew", Check.lookThrough(x), Check.lookThrough(fresh));
        LastSentence y = lived();
        y.seed(5);
        LastSentence small = Check.house("n2;r1;");
        small.seed(5);
        check.due("manor() of a smaller one", Check.tell(y, "n2;r1;"), 0);
        check.due("room(1, 0)", y.room(1, 0), Check.UNKNOWN);
        check.same("a smaller one", Check.lookThrough(y), Check.lookThrough(small));
    }

    private static void latestFault() {
        check.says("The letter of the FAULT of the latest manor(); NONE.");
        LastSentence x = new LastSentence();
        check.due("fault() of none", x.fault(), Check.NONE);
        Check.feedAll(x, "x");
        check.due("fault() of a text that is not yet told", x.fault(), Check.NONE);
        x.manor();
        check.due("fault() at the first letter", x.fault(), 0);
        Check.tell(x, "n1;x");
        check.due("fault()", x.fault(), 3);
        x.hour(1);
        x.feed('n');
        check.due("fault() stays until the next", x.fault(), 3);
        x.feed('1');
        x.feed(';');
        x.manor();
        check.due("fault() of one that stands", x.fault(), Check.NONE);
        Check.tell(x, "n");
        check.due("fault()", x.fault(), 1);
        x.manor();
        check.due("fault() of no letters", x.fault(), Check.NONE);
    }

    private static void theFullestManor() {
        check.says("0 N (0 without a MANOR), 1 ROOMS, 2 DOORS, 3 HEIRS, 4 letters of THE TEXT");
        String text = "n20;r20;r20;r20;r20;r20;r20;d0 1 9;d1 2 9;d2 3 9;d3 4 9;d4 5 9;d5 0 9;d0 2 9;d3 5 9;"
            + "p4 20 5;p4 20 5;p4 20 5;p4 20 5;p4 20 5;p4 20 5;";
        LastSentence x = new LastSentence();
        Check.feedAll(x, text);
        check.due("told(4)", x.told(4), text.length());
        check.due("told(0) not yet", x.told(0), 0);
        check.due("manor()", x.manor(), 6);
        check.due("told(0)", x.told(0), 20);
        check.due("told(1)", x.told(1), 6);
        check.due("told(2)", x.told(2), 8);
        check.due("told(3)", x.told(3), 6);
        check.due("told(-1)", x.told(-1), Check.OUTSIDE);
        check.due("told(13)", x.told(13), 0);
        check.due("told(14)", x.told(14), Check.OUTSIDE);
        check.due("told(MIN)", x.told(Integer.MIN_VALUE), Check.OUTSIDE);
        check.due("told(MAX)", x.told(Integer.MAX_VALUE), Check.OUTSIDE);
        check.due("room(5, 0)", x.room(5, 0), 20);
        check.due("door(7, 2)", x.door(7, 2), 9);
        check.due("heir(5, 2)", x.heir(5, 2), 5);
    }
}
