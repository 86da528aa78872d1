/** Promises 6 and 7, and the TAPE of 8, 10 and 11: each sentence that bounds the TAPE, by itself. */
public final class TapeEdgesTest {
    private static final int NONE = MarkPages.NONE;

    public static void main(String[] args) {
        sixHundred();
        moreThanSixHundred();
        nothingComes();
        highestFirst();
        everyByte();
        endUpToItsLength();
        endOfAnEmptyOne();
        endOfAFullOne();
        endChangingNothing();
        firstOnesAlone();
        emptyThen();
        emptyThenWhenRefused();
        Desk.finish();
    }

    /** A Desk whose PUPIL 0 has one LINE, of SAYING 0 and SKILL 0, so that a PHRASE can be seen. */
    private static Desk desk() {
        Desk desk = new Desk();
        desk.x.question(1, 1);
        desk.x.mark(0, 0, 1);
        desk.rules("say 0 when 0=0;");
        return desk;
    }

    private static MarkPages filled(int feeds) {
        MarkPages x = new MarkPages();
        for (int i = 1; i <= feeds; i++) {
            Desk.due("6: how many it has", x.feed(i, i, i, i, i), 20 * i);
        }
        return x;
    }

    private static void sixHundred() {
        MarkPages x = filled(29);
        Desk.due("6: 600 can be", x.feed(1, 2, 3, 4, 5), 600);
        for (int length = 0; length <= 580; length++) {
            MarkPages cut = filled(29);
            cut.end(length);
            Desk.due("6: behind " + length, cut.feed(0, 0, 0, 0, 0), length + 20);
        }
    }

    private static void moreThanSixHundred() {
        for (int length = 581; length <= 600; length++) {
            MarkPages x = filled(30);
            x.end(length);
            Desk.due("6: more than 600 by " + (length - 580), x.feed(0, 0, 0, 0, 0), NONE);
            Desk.due("6: nothing comes", x.end(length + 1), false);
            Desk.due("6: and nothing goes", x.end(length), true);
        }
    }

    /** The bytes of a text that a refused feed follows are those that were there. */
    private static void nothingComes() {
        String rule = "say 7 when 0=0;";
        String text = rule + " ".repeat(585 - rule.length());
        Desk desk = desk();
        desk.type(text);
        desk.x.end(585);
        Desk.due("6: 605 can't be", desk.x.feed(-1, -1, -1, -1, -1), NONE);
        Desk.due("6: the text is what it was", desk.x.rules(), 1);
        Desk.due("6: its rule", desk.lines(0), "7/0/0/1");
    }

    private static void highestFirst() {
        int[][] feeds = {{0x01020304, 0x05060708, 0x090A0B0C, 0x0D0E0F10, 0x11121314},
            {Integer.MIN_VALUE, Integer.MAX_VALUE, -1, 0, 1}};
        for (int[] n : feeds) {
            Desk desk = desk();
            Desk.due("6: twenty", desk.x.feed(n[0], n[1], n[2], n[3], n[4]), 20);
            Desk.due("10: twenty", desk.x.phrase(0, 0), true);
            Desk.due("14: twenty and a byte 10", desk.x.write(0, 0), 21);
            for (int i = 0; i < 20; i++) {
                int want = n[i / 4] >>> 24 - 8 * (i % 4) & 255;
                Desk.due("6: byte " + i, desk.x.out(i), want);
            }
        }
    }

    /** Each byte 0 .. 255 is told again by out, but for those that stand for something else. */
    private static void everyByte() {
        for (int b = 0; b < 256; b++) {
            Desk desk = desk();
            desk.x.feed(b << 24, 0, 0, 0, 0);
            desk.x.end(1);
            desk.x.phrase(0, 0);
            boolean stands = b == '%' || b == '#';
            Desk.due("15: length with byte " + b, desk.x.write(0, 0), b == '%' ? 1 : b == '#' ? 4 : 2);
            Desk.due("15: byte " + b, stands || desk.x.out(0) == b, true);
        }
    }

    private static void endUpToItsLength() {
        for (int feeds = 1; feeds <= 30; feeds++) {
            int length = 20 * feeds;
            MarkPages x = filled(feeds);
            Desk.due("7: not one more than " + length, x.end(length + 1), false);
            Desk.due("7: so many, " + length, x.end(length), true);
            Desk.due("7: one fewer", x.end(length - 1), true);
            Desk.due("7: no longer so many", x.end(length), false);
        }
        MarkPages x = filled(2);
        Desk.due("7: all", x.end(40), true);
        int[] wrong = {-1, 41, -256, 296, Integer.MIN_VALUE, Integer.MAX_VALUE};
        for (int n : wrong) {
            Desk.due("7: " + n + " of 40", x.end(n), false);
        }
        Desk.due("7: none", x.end(0), true);
        Desk.due("7: none of them is left", x.end(1), false);
    }

    private static void endOfAnEmptyOne() {
        MarkPages x = new MarkPages();
        Desk.range("7: of an empty TAPE", 0, 0, x::end);
        Desk.due("7: it is empty still", x.feed(0, 0, 0, 0, 0), 20);
    }

    private static void endOfAFullOne() {
        MarkPages x = filled(30);
        Desk.due("7: all 600", x.end(600), true);
        Desk.due("7: 601", x.end(601), false);
        Desk.due("7: all 600 still", x.end(600), true);
        Desk.due("7: none", x.end(0), true);
        Desk.due("6: from the start", x.feed(0, 0, 0, 0, 0), 20);
    }

    private static void endChangingNothing() {
        int[] wrong = {-1, 4, Integer.MIN_VALUE, Integer.MAX_VALUE};
        for (int n : wrong) {
            Desk desk = desk();
            desk.type("abc");
            Desk.due("7: " + n + " of 3", desk.x.end(n), false);
            desk.x.phrase(0, 0);
            Desk.due("7: changing nothing by " + n, desk.write(0, 0), "abc\n");
        }
    }

    private static void firstOnesAlone() {
        String text = "abcdefghijklmnopqrst";
        for (int n = 1; n <= 20; n++) {
            Desk desk = desk();
            desk.type(text);
            Desk.due("7: " + n + " of 20", desk.x.end(n), true);
            desk.x.phrase(0, 0);
            Desk.due("7: the first " + n, desk.write(0, 0), text.substring(0, n) + "\n");
        }
    }

    private static void empty(String what, Desk desk) {
        Desk.due(what + ": the TAPE is empty then", desk.x.end(1), false);
        Desk.due(what + ": and begins anew", desk.x.feed(0, 0, 0, 0, 0), 20);
    }

    private static void emptyThen() {
        Desk rules = new Desk();
        Desk.due("8: rules", rules.rules("say 0 when 0=0;"), 1);
        empty("8", rules);
        Desk blank = new Desk();
        Desk.due("8: no rules", blank.rules("    "), 0);
        empty("8, blanks", blank);
        Desk phrase = new Desk();
        Desk.due("10: a phrase", phrase.phrase(39, 2, "a"), true);
        empty("10", phrase);
        Desk name = new Desk();
        Desk.due("11: a name", name.name(4, 2, "a"), true);
        empty("11", name);
    }

    private static void emptyThenWhenRefused() {
        String[] faulty = {"say", "say 40 when 0=0;", "say 0 when " + "(".repeat(9), "?".repeat(600)};
        for (String text : faulty) {
            Desk desk = new Desk();
            Desk.due("8: a FAULT", desk.rules(text), NONE);
            empty("8, a FAULT", desk);
        }
        int[][] wrong = {{40, 0, 1}, {-1, 0, 1}, {0, 3, 1}, {0, -1, 1}, {0, 0, 21}, {0, 0, 600}, {40, 3, 21}};
        for (int[] w : wrong) {
            Desk desk = new Desk();
            Desk.due("10: refused", desk.phrase(w[0], w[1], "x".repeat(w[2])), false);
            empty("10, refused", desk);
        }
        int[][] wrongNames = {{5, 0, 1}, {-1, 0, 1}, {0, 3, 1}, {0, -1, 1}, {0, 0, 11}, {0, 0, 600}, {5, 3, 11}};
        for (int[] w : wrongNames) {
            Desk desk = new Desk();
            Desk.due("11: refused", desk.name(w[0], w[1], "x".repeat(w[2])), false);
            empty("11, refused", desk);
        }
    }
}
