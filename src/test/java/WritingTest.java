/** Promises 10, 11, 14 and 15: PHRASES, NAMES, and PAGES written by them. */
public final class WritingTest {
    private static final int LOW = Integer.MIN_VALUE;
    private static final int HIGH = Integer.MAX_VALUE;

    public static void main(String[] args) {
        phrases();
        names();
        tongues();
        shares();
        sharesByTen();
        outStays();
        longest();
        emptyPhrase();
        emptyAmongOthers();
        unseenPhrase();
        Desk.finish();
    }

    /** A PUPIL 0 with 7 of 10 in SKILLS 0 and 1, and a LINE of SAYING 5 for each. */
    private static Desk desk() {
        Desk desk = new Desk();
        desk.x.question(10, 3);
        desk.x.mark(0, 0, 7);
        desk.rules("say 5 when 0=0;");
        return desk;
    }

    private static void phrases() {
        Desk desk = desk();
        Desk.due("14: without a phrase", desk.write(0, 0), "");
        Desk.due("10: twenty bytes", desk.phrase(5, 0, "12345678901234567890"), true);
        Desk.due("14: of twenty bytes", desk.write(0, 0), "12345678901234567890\n12345678901234567890\n");
        Desk.due("10: twenty-one", desk.phrase(5, 0, "123456789012345678901"), false);
        Desk.due("10: the first stays", desk.write(0, 0), "12345678901234567890\n12345678901234567890\n");
        Desk.due("10: a shorter one", desk.phrase(5, 0, "ab"), true);
        Desk.due("14: instead of it", desk.write(0, 0), "ab\nab\n");
        int[] wrongSayings = {-1, 40, LOW, HIGH};
        for (int saying : wrongSayings) {
            Desk.due("10: saying " + saying, desk.phrase(saying, 0, "x"), false);
        }
        int[] wrongTongues = {-1, 3, LOW, HIGH};
        for (int tongue : wrongTongues) {
            Desk.due("10: tongue " + tongue, desk.phrase(5, tongue, "x"), false);
            Desk.due("10: tongue " + tongue, desk.phrase(6, tongue, "x"), false);
        }
        Desk.due("10: nothing is done", desk.write(0, 0) + desk.write(0, 1) + desk.write(0, 2), "ab\nab\n");
        Desk.due("10: the last saying", desk.phrase(39, 2, "last"), true);
        Desk.due("10: the first saying", desk.phrase(0, 0, "first"), true);
        desk.rules("say 39 when 0=0; say 0 skill 0 when 0=0;");
        Desk.due("14: in 2", desk.write(0, 2), "last\nlast\n");
        Desk.due("14: in 0", desk.write(0, 0), "first\n");
    }

    private static void names() {
        Desk desk = desk();
        desk.phrase(5, 0, "<%%>");
        Desk.due("14: without a name", desk.write(0, 0), "<>\n<>\n");
        Desk.due("11: ten bytes", desk.name(0, 0, "1234567890"), true);
        Desk.due("11: of another", desk.name(1, 0, "B%#\n"), true);
        Desk.due("14: names", desk.write(0, 0), "<12345678901234567890>\n<B%#\nB%#\n>\n");
        Desk.due("11: eleven", desk.name(0, 0, "12345678901"), false);
        int[] wrongSkills = {-1, 5, LOW, HIGH};
        for (int skill : wrongSkills) {
            Desk.due("11: skill " + skill, desk.name(skill, 0, "x"), false);
        }
        int[] wrongTongues = {-1, 3, LOW, HIGH};
        for (int tongue : wrongTongues) {
            Desk.due("11: tongue " + tongue, desk.name(0, tongue, "x"), false);
        }
        Desk.due("11: nothing is done", desk.write(0, 0), "<12345678901234567890>\n<B%#\nB%#\n>\n");
        Desk.due("11: an empty one", desk.name(0, 0, ""), true);
        Desk.due("14: is no bytes", desk.write(0, 0), "<>\n<B%#\nB%#\n>\n");
        Desk.due("11: the last", desk.name(4, 2, "z"), true);
    }

    private static void tongues() {
        Desk desk = desk();
        String[] words = {"zero", "one", "two"};
        for (int t = 0; t < 3; t++) {
            desk.phrase(5, t, words[t] + " % #");
            desk.name(0, t, "a" + t);
            desk.name(1, t, "b" + t);
        }
        for (int t = 0; t < 3; t++) {
            Desk.due("14: tongue " + t, desk.write(0, t),
                words[t] + " a" + t + " 70\n" + words[t] + " b" + t + " 70\n");
        }
    }

    private static void shares() {
        Desk desk = new Desk();
        int[] points = {0, 1, 2, 19, 20};
        String[] texts = {"0", "5", "10", "95", "100"};
        desk.rules("say 5 when 0=0;");
        desk.phrase(5, 0, "#|#%");
        desk.x.question(20, 1);
        for (int p = 0; p < points.length; p++) {
            desk.x.mark(p, 0, points[p]);
        }
        for (int p = 0; p < points.length; p++) {
            Desk.due("14: share", desk.write(p, 0), texts[p] + "|" + texts[p] + "\n");
        }
    }

    /** 9 and 99 are the last shares of one and of two digits. */
    private static void sharesByTen() {
        Desk desk = new Desk();
        for (int q = 0; q < 10; q++) {
            desk.x.question(20, 1);
            desk.x.mark(0, q, q == 0 ? 18 : 0);
            desk.x.mark(1, q, q == 0 ? 18 : 20);
        }
        desk.rules("say 5 when 0=0;");
        desk.phrase(5, 0, "#");
        Desk.due("14: share 9", desk.write(0, 0), "9\n");
        Desk.due("14: share 99", desk.write(1, 0), "99\n");
    }

    private static void outStays() {
        Desk desk = desk();
        desk.phrase(5, 0, "#");
        desk.write(0, 0);
        int[] wrongPupils = {-1, 8, LOW, HIGH};
        for (int p : wrongPupils) {
            Desk.due("14: pupil " + p, desk.x.write(p, 0), -1);
        }
        int[] wrongTongues = {-1, 3, LOW, HIGH};
        for (int tongue : wrongTongues) {
            Desk.due("14: tongue " + tongue, desk.x.write(0, tongue), -1);
        }
        desk.x.mark(0, 0, 1);
        desk.x.page(0);
        desk.x.group(-1);
        Desk.due("14: OUT stays", desk.written(), "70\n70\n");
        int[] wrong = {-1, 6, 2411, 2412, LOW, HIGH};
        for (int i : wrong) {
            Desk.due("15: byte " + i, desk.x.out(i), -1);
        }
        Desk.due("15: the last byte", desk.x.out(5), 10);
        Desk.due("14: anew", desk.write(0, 0), "10\n10\n");
        Desk.due("14: none of it", desk.write(1, 0), "");
        Desk.due("15: OUT is empty", desk.x.out(0), -1);
    }

    private static void longest() {
        Desk desk = new Desk();
        desk.x.question(1, 31);
        desk.x.mark(0, 0, 1);
        desk.rules("say 0 when 0=0; say 10 when 0=0; say 20 when 0=0;");
        for (int saying = 0; saying < 30; saying += 10) {
            desk.phrase(saying, 1, "%".repeat(20));
        }
        for (int s = 0; s < 5; s++) {
            desk.name(s, 1, "\u00ff123456789");
        }
        Desk.due("14: the longest page", desk.x.write(0, 1), 2412);
        String want = ("\u00ff123456789".repeat(20) + "\n").repeat(12);
        for (int i = 0; i < 2412; i += 11) {
            Desk.due("15: byte " + i, desk.x.out(i), want.charAt(i));
        }
        Desk.due("15: its last byte", desk.x.out(2411), 10);
        Desk.due("15: behind it", desk.x.out(2412), -1);
    }

    /** A PHRASE of no bytes is none, whether it was never told, told so, or told anew so. */
    private static void emptyPhrase() {
        Desk desk = desk();
        Desk.due("10: an empty tape", desk.x.phrase(5, 0), true);
        Desk.due("14: by it", desk.write(0, 0), "");
        Desk.due("15: OUT is empty", desk.x.out(0), -1);
        Desk.due("14: in a tongue without one", desk.write(0, 1), "");
        desk.phrase(5, 0, "ab");
        desk.phrase(5, 1, "cd");
        Desk.due("14: told behind it", desk.write(0, 0), "ab\nab\n");
        Desk.due("10: emptied", desk.phrase(5, 0, ""), true);
        Desk.due("14: emptied", desk.write(0, 0), "");
        Desk.due("14: the other tongue's stays", desk.write(0, 1), "cd\ncd\n");
    }

    /** Only the LINES of the empty PHRASE go, wherever they stand among the others. */
    private static void emptyAmongOthers() {
        Desk desk = desk();
        desk.rules("say 5 when 0=0; say 15 when 0=0; say 25 when 0=0;");
        for (int empty = 5; empty < 30; empty += 10) {
            StringBuilder want = new StringBuilder();
            for (int saying = 5; saying < 30; saying += 10) {
                desk.phrase(saying, 0, saying == empty ? "" : "s" + saying);
                want.append(saying == empty ? "" : "s" + saying + "\ns" + saying + "\n");
            }
            Desk.due("14: without " + empty, desk.write(0, 0), want.toString());
        }
        Desk.due("12: the page has them still", desk.x.page(0), 6);
    }

    /** A PHRASE that has bytes is one, though nothing of it may be seen: its byte 10 is written. */
    private static void unseenPhrase() {
        Desk desk = desk();
        desk.phrase(5, 0, "%");
        Desk.due("14: % without a name", desk.write(0, 0), "\n\n");
        desk.name(0, 0, "a");
        desk.name(1, 0, "");
        Desk.due("14: % with an empty name", desk.write(0, 0), "a\n\n");
        desk.phrase(5, 0, "\n");
        Desk.due("14: a byte 10", desk.write(0, 0), "\n\n\n\n");
    }
}
