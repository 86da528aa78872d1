/** Promises 12 and 13: PAGES, their LINES, and by which QUESTIONS they are BORNE. */
public final class PagesTest {
    private static final int LOW = Integer.MIN_VALUE;
    private static final int HIGH = Integer.MAX_VALUE;

    public static void main(String[] args) {
        wrongInputs();
        orderOfLines();
        sorts();
        twelveLines();
        notMarkedSkills();
        borne();
        borneKeepsClass();
        followsMarks();
        Desk.finish();
    }

    private static void wrongInputs() {
        Desk desk = new Desk();
        desk.x.question(5, 1);
        desk.x.mark(7, 0, 5);
        desk.rules("say 3 when 0=0;");
        int[] wrongPupils = {-1, 8, LOW, HIGH};
        for (int p : wrongPupils) {
            Desk.due("12: pupil " + p, desk.x.page(p), -1);
            Desk.due("13: pupil " + p, desk.x.line(p, 0, 0), -1);
        }
        Desk.due("12: the last pupil", desk.x.page(7), 1);
        int[] wrongLines = {-1, 1, 12, LOW, HIGH};
        for (int i : wrongLines) {
            Desk.due("13: line " + i, desk.x.line(7, i, 0), -1);
            Desk.due("13: set of line " + i, desk.x.line(7, i, 3), -1);
        }
        int[] wrongWhats = {-1, 4, LOW, HIGH};
        for (int what : wrongWhats) {
            Desk.due("13: what " + what, desk.x.line(7, 0, what), -1);
        }
        Desk.due("13: the line", desk.lines(7), "3/0/0/1");
        Desk.due("13: another pupil's", desk.x.line(6, 0, 0), -1);
    }

    private static void orderOfLines() {
        Desk desk = new Desk();
        desk.x.question(10, 31);
        desk.x.mark(2, 0, 7);
        desk.rules("say 30 skill 3 when 0=0; say 10 when 0=0; say 0 skill 1 when 0=0;");
        Desk.due("12: rule by rule, skill by skill", desk.lines(2),
            "30/3/0/1 10/0/1/1 10/1/1/1 10/2/1/1 10/3/1/1 10/4/1/1 0/1/2/1");
    }

    private static void sorts() {
        Desk desk = new Desk();
        desk.x.question(10, 3);
        desk.x.mark(0, 0, 7);
        desk.rules("say 9 skill 0 when 1=2; say 0 skill 0 when 0=0; say 9 when 0=0;"
            + "say 10 skill 1 when 0=0; say 19 when 0=0; say 29 when 0=0; say 30 when 0=0; say 39 when 0=0;");
        Desk.due("12: one of a sort and skill", desk.lines(0),
            "0/0/1/1 9/1/2/1 10/1/3/1 19/0/4/1 29/0/5/1 29/1/5/1 30/0/6/1 30/1/6/1");
    }

    private static void twelveLines() {
        Desk desk = new Desk();
        desk.x.question(10, 31);
        desk.x.mark(0, 0, 7);
        desk.rules("say 0 when 0=0; say 10 when 0=0; say 20 when 0=0; say 30 when 0=0;");
        Desk.due("12: twelve at most", desk.x.page(0), 12);
        Desk.due("13: the twelfth", desk.x.line(0, 11, 0) * 10 + desk.x.line(0, 11, 1), 201);
        Desk.due("13: no thirteenth", desk.x.line(0, 12, 0), -1);
        Desk.due("17: the twelfth is on the sheet", desk.x.sheet(1, 2), 1);
        Desk.due("17: one left out is not", desk.x.sheet(2, 2), 0);
        Desk.due("17: nor a later sort", desk.x.sheet(0, 3), 0);
        Desk.due("12: nothing else", desk.x.page(1), 0);
    }

    private static void notMarkedSkills() {
        Desk desk = new Desk();
        desk.x.question(10, 1);
        desk.x.question(10, 16);
        desk.rules("say 0 when marked = 0 or 0=0; say 10 skill 2 when 0=0; say 20 skill 4 when 0=0;");
        Desk.due("12: no mark", desk.x.page(0), 0);
        desk.x.mark(0, 1, 0);
        Desk.due("12: marked skills alone", desk.lines(0), "0/4/0/2 20/4/2/2");
        desk.x.mark(0, 0, 0);
        Desk.due("12: both", desk.lines(0), "0/0/0/1 0/4/0/2 20/4/2/2");
    }

    private static void borne() {
        Desk desk = new Desk();
        int[] skills = {1, 2, 3, 1, 1, 1};
        int[] points = {2, 10, 9, 9, 0, 5};
        for (int q = 0; q < skills.length; q++) {
            desk.x.question(10, skills[q]);
            desk.x.mark(0, q, points[q]);
        }
        desk.rules("say 0 skill 0 when marked > 1 and share > 69;");
        Desk.due("13: not so for all together", desk.lines(0), "");
        desk.x.mark(0, 4, -1);
        desk.x.mark(0, 0, 7);
        Desk.due("13: the least of the pairs", desk.lines(0), "0/0/0/5");
        desk.rules("say 0 skill 0 when marked > 1 and share > 69 and last > 80;"
            + "say 10 skill 0 when share > 69 and last < 60;"
            + "say 20 skill 0 when marked > 2;"
            + "say 30 skill 1 when share > 90;");
        Desk.due("13: none, as the last is 50; a set of two; of three; one of the other skill", desk.lines(0),
            "10/0/1/36 20/0/2/13 30/1/3/2");
        desk.x.mark(0, 5, -1);
        Desk.due("13: by number", desk.x.line(0, 0, 3), 5);
        desk.rules("say 0 skill 0 when not marked = 1 and not marked = 2;");
        Desk.due("13: all of them", desk.lines(0), "0/0/0/13");
        desk.rules("say 0 when 0=0;");
        Desk.due("13: at least one", desk.lines(0), "0/0/0/1 0/1/0/2");

        Desk full = new Desk();
        for (int q = 0; q < 10; q++) {
            full.x.question(20, 1);
            full.x.mark(0, q, 20);
        }
        full.rules("say 0 when marked > 9; say 10 when marked > 8; say 20 when marked > 4 and 0=0;");
        Desk.due("13: ten, nine, five of ten", full.lines(0), "0/0/0/1023 10/0/1/511 20/0/2/31");
        full.x.mark(0, 0, 0);
        full.rules("say 0 when last = 100 and missed = 1; say 10 when marked > 1 and missed = 0 or missed = 1 and marked > 8;");
        Desk.due("13: fewer with higher numbers", full.lines(0), "0/0/0/3 10/0/1/6");
    }

    private static void borneKeepsClass() {
        Desk desk = new Desk();
        desk.x.question(10, 1);
        desk.x.question(10, 1);
        desk.x.mark(0, 0, 4);
        desk.x.mark(0, 1, 10);
        desk.rules("say 0 when class = 70 and share > class - 1;");
        Desk.due("13: class as it is", desk.lines(0), "0/0/0/2");
    }

    private static void followsMarks() {
        Desk desk = new Desk();
        desk.x.question(10, 1);
        desk.rules("say 0 when share > class; say 1 when share < class; say 2 when 0=0;");
        desk.x.mark(0, 0, 5);
        Desk.due("12: alone", desk.lines(0), "2/0/2/1");
        desk.x.mark(1, 0, 3);
        Desk.due("12: another's mark moves the class", desk.lines(0), "0/0/0/1");
        desk.x.mark(1, 0, 8);
        desk.x.mark(2, 0, 8);
        Desk.due("12: below it now", desk.lines(0), "1/0/1/1");
        Desk.due("12: the same for the same work", desk.lines(0), "1/0/1/1");
    }
}
