/** Promises 1 to 5: a new object, question, mark, of, got. */
public final class PapersTest {
    private static final int LOW = Integer.MIN_VALUE;
    private static final int HIGH = Integer.MAX_VALUE;

    public static void main(String[] args) {
        newObject();
        questions();
        marks();
        ofQuestions();
        gotByQuestions();
        gotWrong();
        gotByTen();
        medians();
        Desk.finish();
    }

    private static void newObject() {
        MarkPages x = new MarkPages();
        Desk.due("NONE", MarkPages.NONE, -1);
        Desk.due("1: of", x.of(0, 0), -1);
        Desk.due("1: rules' fault", x.fault(0), 0);
        Desk.due("1: rules' place", x.fault(1), -1);
        Desk.due("1: out", x.out(0), -1);
        Desk.due("1: groups", x.group(-1), 0);
        for (int p = 0; p < 8; p++) {
            Desk.due("1: page", x.page(p), 0);
            Desk.due("1: group", x.group(p), -1);
            Desk.due("1: marked", x.got(p, 4, 0), 0);
        }
        Desk.due("1: the tape is empty", x.end(1), false);
        Desk.due("1: the first question", x.question(20, 31), 0);
        Desk.due("1: no rules yet", x.mark(0, 0, 20) ? x.page(0) : -1, 0);
    }

    private static void questions() {
        MarkPages x = new MarkPages();
        int[] wrong = {0, 21, -1, LOW, HIGH};
        for (int most : wrong) {
            Desk.due("2: most " + most, x.question(most, 1), -1);
        }
        int[] wrongSkills = {0, 32, -1, 33, 64, LOW, HIGH};
        for (int skills : wrongSkills) {
            Desk.due("2: skills " + skills, x.question(1, skills), -1);
        }
        for (int q = 0; q < 10; q++) {
            Desk.due("2: number", x.question(q == 0 ? 1 : 20, q == 0 ? 31 : 1), q);
            Desk.due("2: a wrong one between does nothing", x.question(0, 1), -1);
        }
        Desk.due("2: the eleventh", x.question(5, 1), -1);
        Desk.due("2: the tenth stays", x.of(9, 0), 20);
        Desk.due("2: no eleventh", x.of(10, 0), -1);
    }

    private static void marks() {
        MarkPages x = new MarkPages();
        Desk.due("3: no question yet", x.mark(0, 0, 0), false);
        x.question(7, 1);
        Desk.due("3: 0", x.mark(0, 0, 0), true);
        Desk.due("3: the most", x.mark(7, 0, 7), true);
        Desk.due("3: above", x.mark(7, 0, 8), false);
        Desk.due("3: stays", x.of(0, 17), 7);
        Desk.due("3: below none", x.mark(7, 0, -2), false);
        Desk.due("3: stays still", x.of(0, 17), 7);
        Desk.due("3: none again", x.mark(7, 0, -1), true);
        Desk.due("3: it is none", x.of(0, 17), -1);
        Desk.due("3: none twice", x.mark(7, 0, -1), true);
        int[] wrongPupils = {-1, 8, LOW, HIGH};
        for (int p : wrongPupils) {
            Desk.due("3: pupil " + p, x.mark(p, 0, 1), false);
        }
        int[] wrongQuestions = {-1, 1, 9, 10, LOW, HIGH};
        for (int q : wrongQuestions) {
            Desk.due("3: question " + q, x.mark(0, q, 1), false);
        }
        Desk.due("3: points low", x.mark(0, 0, LOW), false);
        Desk.due("3: points high", x.mark(0, 0, HIGH), false);
        Desk.due("3: pupil 0 as before", x.of(0, 10), 0);
    }

    private static void ofQuestions() {
        MarkPages x = new MarkPages();
        x.question(13, 21);
        x.question(1, 16);
        x.mark(3, 0, 12);
        x.mark(3, 1, 1);
        Desk.due("4: most", x.of(0, 0), 13);
        Desk.due("4: skills", x.of(0, 1), 21);
        Desk.due("4: most of 1", x.of(1, 0), 1);
        Desk.due("4: skills of 1", x.of(1, 1), 16);
        Desk.due("4: points", x.of(0, 13), 12);
        Desk.due("4: points of 1", x.of(1, 13), 1);
        for (int p = 0; p < 8; p++) {
            Desk.due("4: pupil " + p, x.of(0, 10 + p), p == 3 ? 12 : -1);
        }
        int[] wrong = {-1, 2, 9, 18, LOW, HIGH};
        for (int what : wrong) {
            Desk.due("4: what " + what, x.of(0, what), -1);
        }
        int[] wrongQuestions = {-1, 2, 10, LOW, HIGH};
        for (int q : wrongQuestions) {
            Desk.due("4: question " + q, x.of(q, 0), -1);
            Desk.due("4: question " + q, x.of(q, 1), -1);
            Desk.due("4: question " + q, x.of(q, 13), -1);
        }
    }

    private static void got(String why, MarkPages x, int p, int s, int... want) {
        for (int what = 0; what < 5; what++) {
            Desk.due("5: " + why + ", what " + what, x.got(p, s, what), want[what]);
        }
    }

    private static void gotByQuestions() {
        MarkPages x = new MarkPages();
        got("no questions", x, 0, 0, 0, 0, 0, 0, 0);
        x.question(3, 1);
        x.question(7, 3);
        x.question(9, 2);
        x.question(20, 1);
        got("no marks", x, 0, 0, 0, 0, 0, 0, 0);
        x.mark(0, 0, 2);
        got("2 of 3", x, 0, 0, 1, 66, 0, 66, 66);
        got("another skill", x, 0, 1, 0, 0, 0, 0, 0);
        x.mark(0, 1, 0);
        got("by the mosts together", x, 0, 0, 2, 20, 1, 0, 20);
        got("the shared question", x, 0, 1, 1, 0, 1, 0, 0);
        x.mark(0, 2, 9);
        got("last is of the skill", x, 0, 0, 2, 20, 1, 0, 20);
        got("9 of 16", x, 0, 1, 2, 56, 1, 100, 56);
        x.mark(0, 3, 19);
        got("21 of 30", x, 0, 0, 3, 70, 1, 95, 70);
        x.mark(0, 3, -1);
        got("without it again", x, 0, 0, 2, 20, 1, 0, 20);
        x.mark(0, 3, 0);
        got("last with 0 points", x, 0, 0, 3, 6, 2, 0, 6);
        got("another pupil has the class alone", x, 5, 0, 0, 0, 0, 0, 6);
    }

    private static void gotWrong() {
        MarkPages x = new MarkPages();
        x.question(5, 31);
        x.mark(0, 0, 5);
        int[] wrong = {-1, 8, LOW, HIGH};
        for (int p : wrong) {
            Desk.due("5: pupil " + p, x.got(p, 0, 0), -1);
        }
        int[] wrongFives = {-1, 5, LOW, HIGH};
        for (int n : wrongFives) {
            Desk.due("5: skill " + n, x.got(0, n, 0), -1);
            Desk.due("5: what " + n, x.got(0, 0, n), -1);
        }
        Desk.due("5: the last of each", x.got(7, 4, 4), 100);
    }

    private static void gotByTen() {
        MarkPages x = new MarkPages();
        x.question(1, 1);
        x.mark(0, 0, 1);
        got("a most of 1", x, 0, 0, 1, 100, 0, 100, 100);
        for (int q = 1; q < 10; q++) {
            x.question(20, 1);
            x.mark(0, q, q == 9 ? 1 : 0);
        }
        got("ten questions", x, 0, 0, 10, 1, 8, 5, 1);
        x.mark(1, 0, 0);
        x.mark(1, 9, 20);
        got("the next pupil", x, 1, 0, 2, 95, 1, 100, 1);
        got("the one behind", x, 2, 0, 0, 0, 0, 0, 1);
    }

    private static void medians() {
        MarkPages x = new MarkPages();
        x.question(20, 1);
        int[] points = {20, 0, 10, 4, 16, 2, 18, 8};
        int[] median = {100, 0, 50, 20, 50, 20, 50, 40};
        for (int p = 0; p < 8; p++) {
            x.mark(p, 0, points[p]);
            Desk.due("5: class of " + (p + 1), x.got(3, 0, 4), median[p]);
        }
        x.mark(7, 0, -1);
        Desk.due("5: class of seven again", x.got(0, 0, 4), 50);
        Desk.due("5: class of a skill without any", x.got(0, 1, 4), 0);
    }
}
