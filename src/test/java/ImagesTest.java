/** Promises 28 to 30: seed, keep, goBack. */
public final class ImagesTest {
    private static final Check check = new Check("ImagesTest");

    public static void main(String[] args) {
        seeds();
        images();
        imagesStay();
        imagesRefused();
        check.end();
    }

    private static void seeds() {
        LastSentence x = new LastSentence();
        check.due("seed(2147483647)", x.seed(2147483647), 0);
        check.due("seed(-1)", x.seed(-1), Check.OUTSIDE);
        check.due("seed(MIN)", x.seed(Integer.MIN_VALUE), Check.OUTSIDE);
        check.due("seed(0)", x.seed(0), 2147483647);
        Check.tell(x, "n5;r5;r5;d0 1 1;p0 1 0;p0 1 1;");
        x.seed(2147483647);
        x.drift(1);
        // 2147483647 becomes 1043980748 (the draw of 4 is 1), then the draw of heirs
        check.due("seed(1) after two draws", x.seed(1), (int) ((1043980748L * 1103515245L + 12345L) % 2147483648L));
        check.due("told(7)", x.told(7), 1);
        check.due("a manor", Check.tell(x, "n5;"), 0);
        check.due("seed(2) stays over a manor", x.seed(2), 1);
    }

    private static void images() {
        LastSentence x = Check.house("n4;r4;r2;r4;d0 1 1;d1 2 1;p0 2 0;p2 1 1;p4 1 2;p3 1 0;");
        x.seed(4711);
        x.say(0);
        x.go(0, 0);
        x.hour(5);
        x.say(1);
        x.say(3);
        x.out(2);
        x.candle(1, 7);
        check.due("told(13)", x.told(13), 11);
        check.due("keep(1)", x.keep(1), 1);
        check.due("told(13) nothing to undo", x.told(13), 0);
        check.due("undo(1)", x.undo(1), Check.NOT);
        String kept = Check.look(x);
        x.drift(20);
        x.candle(0, 0);
        x.seed(3);
        check.due("goBack(0)", x.goBack(0), Check.NOT);
        check.due("goBack(1)", x.goBack(1), 1);
        check.same("gone back", Check.look(x), kept);
        check.due("undo(1)", x.undo(1), Check.NOT);
        int first = x.drift(9);
        String later = Check.look(x);
        check.due("goBack(1) again", x.goBack(1), 1);
        check.due("the same drift", x.drift(9), first);
        check.same("the same by the same seed", Check.look(x), later);
    }

    private static void imagesStay() {
        LastSentence x = Check.house("n4;r4;r4;p0 1 0;p0 1 1;");
        x.keep(0);
        String first = Check.look(x);
        x.say(0);
        x.keep(1);
        String second = Check.look(x);
        x.say(1);
        x.hour(9);
        x.goBack(0);
        check.same("image 0", Check.look(x), first);
        x.say(1);
        x.goBack(1);
        check.same("image 1", Check.look(x), second);
        x.hour(4);
        x.goBack(0);
        check.same("image 0 again", Check.look(x), first);
        x.hour(4);
        x.keep(0);
        x.hour(1);
        x.goBack(0);
        check.due("told(6) of the image kept anew", x.told(6), 1);
        check.due("told(5)", x.told(5), 0);
        x.goBack(1);
        check.same("image 1 stays", Check.look(x), second);
    }

    private static void imagesRefused() {
        LastSentence x = Check.house("n4;r4;p0 1 0;");
        x.say(0);
        for (int i : new int[] {-1, 2, Integer.MIN_VALUE, Integer.MAX_VALUE}) {
            check.refused(x, "keep(" + i + ")", () -> x.keep(i), Check.UNKNOWN);
            check.refused(x, "goBack(" + i + ")", () -> x.goBack(i), Check.UNKNOWN);
        }
        check.refused(x, "goBack(0)", () -> x.goBack(0), Check.NOT);
        check.refused(x, "goBack(1)", () -> x.goBack(1), Check.NOT);
        check.due("told(13)", x.told(13), 1);
    }
}
