/** Promises 12 and 13: each sentence that bounds SAYINGS, LINES and what bears them, by itself. */
public final class PagesEdgesTest {
    private static final int NONE = MarkPages.NONE;

    public static void main(String[] args) {
        pupilsOfPage();
        pupilsOfLine();
        linesThatAreThere();
        whatsOfLine();
        onlySkillsWithAMark();
        zeroPointsAreAMark();
        theSkillTold();
        sortsByTen();
        oneOfASortForASkill();
        notSoLeavesRoom();
        noLinesToTwelve();
        twelfthInsideARule();
        leftOutForGood();
        borneByOne();
        borneByAll();
        borneByAtLeastOne();
        borneByTheFewest();
        borneByTheLeastNumber();
        borneByThoseOfTheSkill();
        borneByThoseMarked();
        borneWithClassAsItIs();
        borneByTheRulesOwn();
        Desk.finish();
    }

    /** PUPIL 0 with all five SKILLS marked by one QUESTION, 7 of 10. */
    private static Desk fiveSkills() {
        Desk desk = new Desk();
        desk.x.question(10, 31);
        desk.x.mark(0, 0, 7);
        return desk;
    }

    /** PUPIL 0 with ten QUESTIONS of SKILL 0, of a MOST of 10 each. */
    private static Desk tenQuestions(int... points) {
        Desk desk = new Desk();
        for (int q = 0; q < 10; q++) {
            desk.x.question(10, 1);
            if (q < points.length) {
                desk.x.mark(0, q, points[q]);
            }
        }
        return desk;
    }

    private static void borne(String what, Desk desk, String e, int want) {
        Desk.due("8: " + e, desk.rules("say 0 skill 0 when " + e + ";"), 1);
        Desk.due("13: BORNE, " + what, desk.x.line(0, 0, 3), want);
    }

    private static void pupilsOfPage() {
        Desk desk = new Desk();
        Desk.range("12: PUPILS 0 .. 7, of a new object", 0, 7, p -> desk.x.page(p) == 0);
        for (int p : Desk.outside(0, 7)) {
            Desk.due("12: none such, " + p, desk.x.page(p), NONE);
        }
        desk.x.question(1, 1);
        desk.rules("say 0 when 0=0;");
        for (int p = 0; p < 8; p++) {
            Desk.due("12: no mark of " + p, desk.x.page(p), 0);
            desk.x.mark(p, 0, 0);
            Desk.due("12: a mark of " + p, desk.x.page(p), 1);
        }
    }

    private static void pupilsOfLine() {
        Desk desk = new Desk();
        desk.x.question(1, 1);
        desk.rules("say 5 when 0=0;");
        for (int p = 0; p < 8; p++) {
            desk.x.mark(p, 0, 0);
        }
        for (int what = 0; what < 4; what++) {
            int told = what;
            Desk.range("13: PUPILS 0 .. 7, what " + what, 0, 7, p -> desk.x.line(p, 0, told) != NONE);
        }
    }

    private static void linesThatAreThere() {
        for (int n = 1; n <= 12; n++) {
            Desk desk = new Desk();
            desk.x.question(10, (1 << (n + 2) / 3) - 1);
            desk.x.mark(7, 0, 7);
            StringBuilder text = new StringBuilder();
            for (int i = 0; i < n; i++) {
                text.append("say ").append(i % 3 * 10).append(" skill ").append(i / 3).append(" when 0=0;");
            }
            Desk.due("8: rules", desk.rules(text.toString()), n);
            Desk.due("12: LINES", desk.x.page(7), n);
            int last = n - 1;
            for (int what = 0; what < 4; what++) {
                int told = what;
                Desk.range("13: LINES 0 .. " + last + ", what " + what, 0, last, i -> desk.x.line(7, i, told) != NONE);
            }
        }
        Desk empty = fiveSkills();
        for (int i = -1; i <= 12; i++) {
            Desk.due("13: no LINE " + i, empty.x.line(0, i, 0), NONE);
        }
    }

    private static void whatsOfLine() {
        Desk desk = fiveSkills();
        desk.rules("say 38 when 0=1; say 39 skill 4 when 0=0;");
        Desk.range("13: what 0 .. 3", 0, 3, what -> desk.x.line(0, 0, what) != NONE);
        Desk.due("13: each of them", desk.lines(0), "39/4/1/1");
    }

    private static void onlySkillsWithAMark() {
        for (int s = 0; s < 5; s++) {
            Desk desk = new Desk();
            desk.x.question(10, 1 << s);
            desk.x.question(10, 31 - (1 << s));
            desk.rules("say 0 when marked = 0 or 0=0;");
            Desk.due("12: none marked", desk.lines(0), "");
            desk.x.mark(0, 0, 7);
            Desk.due("12: SKILL " + s + " alone", desk.lines(0), "0/" + s + "/0/1");
            desk.x.mark(0, 0, -1);
            Desk.due("12: taken back", desk.lines(0), "");
            desk.x.mark(0, 1, 7);
            Desk.due("12: all others", desk.x.page(0), 4);
        }
    }

    private static void zeroPointsAreAMark() {
        Desk desk = new Desk();
        desk.x.question(10, 16);
        desk.rules("say 0 when share = 0;");
        Desk.due("12: no points", desk.lines(0), "");
        desk.x.mark(0, 0, 0);
        Desk.due("12: 0 points", desk.lines(0), "0/4/0/1");
    }

    private static void theSkillTold() {
        for (int s = 0; s < 5; s++) {
            Desk desk = fiveSkills();
            desk.rules("say 0 skill " + s + " when 0=0;");
            Desk.due("12: for the one told", desk.lines(0), "0/" + s + "/0/1");
        }
        Desk desk = fiveSkills();
        desk.rules("say 0 when 0=0;");
        Desk.due("12: else for 0, 1, .. 4", desk.lines(0), "0/0/0/1 0/1/0/1 0/2/0/1 0/3/0/1 0/4/0/1");
    }

    /** Two SAYINGS give two LINES of a SKILL just if their numbers by 10 differ. */
    private static void sortsByTen() {
        for (int first = 0; first < 40; first++) {
            for (int second = 0; second < 40; second++) {
                Desk desk = new Desk();
                desk.x.question(10, 1);
                desk.x.mark(0, 0, 7);
                desk.rules("say " + first + " when 0=0; say " + second + " when 0=0;");
                String want = first + "/0/0/1" + (first / 10 == second / 10 ? "" : " " + second + "/0/1/1");
                Desk.due("12: SORTS of " + first + " and " + second, desk.lines(0), want);
            }
        }
    }

    private static void oneOfASortForASkill() {
        Desk desk = fiveSkills();
        desk.rules("say 10 skill 2 when 0=0; say 19 when 0=0;");
        Desk.due("12: the others have it", desk.lines(0), "10/2/0/1 19/0/1/1 19/1/1/1 19/3/1/1 19/4/1/1");
    }

    private static void notSoLeavesRoom() {
        Desk desk = fiveSkills();
        desk.rules("say 10 skill 2 when 0=1; say 11 skill 2 when 0=0; say 12 skill 2 when 0=0;");
        Desk.due("12: the first that is so", desk.lines(0), "11/2/1/1");
    }

    private static void noLinesToTwelve() {
        for (int n = 0; n <= 12; n++) {
            Desk desk = fiveSkills();
            StringBuilder text = new StringBuilder();
            for (int i = 0; i < 12; i++) {
                text.append("say ").append(i % 4 * 10).append(" skill ").append(i / 4);
                text.append(i < n ? " when 0=0;" : " when 0=1;");
            }
            Desk.due("8: twelve rules", desk.rules(text.toString()), 12);
            Desk.due("12: " + n + " LINES", desk.x.page(0), n);
            Desk.due("13: no LINE behind them", desk.x.line(0, n, 0), NONE);
        }
    }

    /** Two RULES with five LINES each, and one of which the first two alone are left in. */
    private static void twelfthInsideARule() {
        Desk desk = fiveSkills();
        desk.rules("say 0 when 0=0; say 10 when 0=0; say 20 when 0=0;");
        Desk.due("12: 12 at most", desk.x.page(0), 12);
        for (int i = 0; i < 12; i++) {
            Desk.due("13: SAYING of LINE " + i, desk.x.line(0, i, 0), i / 5 * 10);
            Desk.due("13: SKILL of LINE " + i, desk.x.line(0, i, 1), i % 5);
            Desk.due("13: RULE of LINE " + i, desk.x.line(0, i, 2), i / 5);
        }
        for (int what = 0; what < 4; what++) {
            Desk.due("13: the 13th, what " + what, desk.x.line(0, 12, what), NONE);
        }
    }

    private static void leftOutForGood() {
        Desk desk = fiveSkills();
        desk.rules("say 0 when 0=0; say 10 when 0=0; say 20 when 0=0; say 30 skill 0 when 0=0;");
        Desk.due("12: 12 still", desk.x.page(0), 12);
        Desk.due("13: the twelfth as before", desk.x.line(0, 11, 0) * 10 + desk.x.line(0, 11, 1), 201);
        desk.rules("say 30 skill 0 when 0=0; say 0 when 0=0; say 10 when 0=0; say 20 when 0=0;");
        Desk.due("13: first it is in", desk.x.line(0, 0, 0), 30);
        Desk.due("13: and another is the twelfth", desk.x.line(0, 11, 0) * 10 + desk.x.line(0, 11, 1), 200);
    }

    private static void borneByOne() {
        for (int q = 0; q < 10; q++) {
            int[] points = {5, 5, 5, 5, 5, 5, 5, 5, 5, 5};
            points[q] = 6;
            borne("by " + q + " alone", tenQuestions(points), "share > 50", 1 << q);
            borne("by the only one", tenQuestions(points), "missed = 0", 1);
        }
    }

    private static void borneByAll() {
        int[] tens = {10, 10, 10, 10, 10, 10, 10, 10, 10, 10};
        for (int n = 1; n <= 10; n++) {
            borne("by " + n + " of ten", tenQuestions(tens), "marked > " + (n - 1), (1 << n) - 1);
        }
        borne("by all two", tenQuestions(3, 4), "marked = 2", 3);
        borne("by the one there is", tenQuestions(3), "0=0", 1);
    }

    /** An E that would be so without any QUESTION is borne by one all the same. */
    private static void borneByAtLeastOne() {
        borne("so without any", tenQuestions(3, 4, 5), "marked < 9", 1);
        borne("so without any, and not with each", tenQuestions(3, 4, 5), "share < 1 or last = 40 or share = 40", 2);
        borne("so of 0 points", tenQuestions(3, 0, 0), "missed = missed and share < 30", 2);
    }

    /** {9}, which counts 512, comes before {0, 1}, which counts 3. */
    private static void borneByTheFewest() {
        Desk desk = tenQuestions(6, 8, 0, 0, 0, 0, 0, 0, 0, 7);
        borne("the fewest", desk, "share = 70 or marked = 10", 512);
        desk.x.mark(0, 9, 9);
        borne("two of them now", desk, "share = 70 or marked = 10", 3);
        desk.x.mark(0, 1, 9);
        borne("all of them now", desk, "share = 70 or marked = 10", 1023);
    }

    /** Of several of one size: {2, 3} counts 12, {0, 4} counts 17. */
    private static void borneByTheLeastNumber() {
        borne("12 before 17", tenQuestions(1, 10, 4, 5, 8), "marked = 2 and share = 45 or marked = 5", 12);
        borne("6 before 9", tenQuestions(2, 3, 5, 6), "marked = 2 and share = 40 or marked = 4", 6);
        borne("the first pair", tenQuestions(5, 5, 5), "marked > 1", 3);
        borne("the first three of four", tenQuestions(9, 1, 9, 9, 9), "marked > 2 and share > 80 or marked = 5", 13);
    }

    private static void borneByThoseOfTheSkill() {
        Desk desk = new Desk();
        desk.x.question(10, 2);
        desk.x.question(10, 1);
        desk.x.question(10, 3);
        for (int q = 0; q < 3; q++) {
            desk.x.mark(0, q, 5);
        }
        desk.rules("say 0 when 0=0; say 10 when marked > 1;");
        Desk.due("13: BORNE, of the SKILL", desk.lines(0), "0/0/0/2 0/1/0/1 10/0/1/6 10/1/1/5");
    }

    private static void borneByThoseMarked() {
        Desk desk = tenQuestions(5, 5, 5, 5);
        desk.x.mark(0, 0, -1);
        desk.x.mark(0, 2, -1);
        borne("not by one without points", desk, "0=0", 2);
        borne("by the two that have points", desk, "marked = 2", 10);
        desk.x.mark(1, 0, 10);
        borne("not by another PUPIL's", desk, "0=0", 2);
    }

    /** By {1} alone the PUPIL's share would be 100; class stays the 70 of both. */
    private static void borneWithClassAsItIs() {
        borne("class as it is", tenQuestions(4, 10), "class = 70 and share > class", NONE);
        borne("class as it is, not above", tenQuestions(4, 10), "not share < class", 2);
        borne("class of one QUESTION", tenQuestions(4, 10), "class = 70", 1);
        Desk two = tenQuestions(4, 10);
        two.x.mark(1, 0, 2);
        borne("class of another PUPIL", two, "class = 20 and share > class + 30", 2);
    }

    /** Two LINES of one SKILL, each by its own RULE's E. */
    private static void borneByTheRulesOwn() {
        Desk desk = tenQuestions(2, 8, 5);
        desk.rules("say 0 when share < 51; say 10 when not share < 50; say 20 when last = 50; say 30 when marked = 3;");
        Desk.due("13: BORNE, each by its own", desk.lines(0), "0/0/0/1 10/0/1/2 20/0/2/4 30/0/3/7");
        Desk.due("13: asked in another order", desk.x.line(0, 3, 3) * 100 + desk.x.line(0, 1, 3), 702);
    }
}
