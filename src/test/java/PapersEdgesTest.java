/** Promises 1 to 5: each sentence that bounds QUESTIONS, SKILLS, PUPILS and points, by itself. */
public final class PapersEdgesTest {
    private static final int NONE = MarkPages.NONE;

    public static void main(String[] args) {
        noQuestionsAtFirst();
        noRulesAtFirst();
        nothingElseAtFirst();
        objectsApart();
        mostsOneToTwenty();
        skillSetsNotEmpty();
        numberedAsTheyCome();
        tenQuestions();
        pupilsOfMark();
        questionsOfMark();
        pointsUpToMost();
        pointsOfAnotherMost();
        noneAtFirstAndAgain();
        questionsOf();
        whatsOf();
        pupilsSkillsAndWhatsOfGot();
        zeroWithoutAny();
        zeroWithoutAnyAgain();
        dividedDownwards();
        missedHasPoints();
        lastHasTheGreatestNumber();
        classOfThoseMarked();
        classAtItsPlace();
        Desk.finish();
    }

    private static void noQuestionsAtFirst() {
        MarkPages x = new MarkPages();
        for (int q = -1; q <= 10; q++) {
            Desk.due("1: no QUESTIONS, MOST of " + q, x.of(q, 0), NONE);
            Desk.due("1: no QUESTIONS, SKILLS of " + q, x.of(q, 1), NONE);
            Desk.due("1: no QUESTIONS, points for " + q, x.of(q, 10), NONE);
            Desk.due("1: no QUESTIONS, mark of " + q, x.mark(0, q, 0), false);
            Desk.due("1: no QUESTIONS, none taken from " + q, x.mark(0, q, -1), false);
        }
        Desk.due("1: the first comes as 0", x.question(1, 1), 0);
    }

    private static void noRulesAtFirst() {
        MarkPages x = new MarkPages();
        x.question(20, 31);
        for (int p = 0; p < 8; p++) {
            x.mark(p, 0, p);
            Desk.due("1: no RULES, page of " + p, x.page(p), 0);
            Desk.due("1: no RULES, line of " + p, x.line(p, 0, 0), NONE);
        }
    }

    private static void nothingElseAtFirst() {
        MarkPages x = new MarkPages();
        Desk.due("1: no FAULT", x.fault(0), 0);
        Desk.due("1: no place", x.fault(1), NONE);
        Desk.due("1: no OUT", x.out(0), NONE);
        Desk.due("1: no groups", x.group(-1), 0);
        Desk.due("1: an empty TAPE", x.end(1), false);
        Desk.due("1: twenty bytes then", x.feed(1, 2, 3, 4, 5), 20);
    }

    private static void objectsApart() {
        Desk used = new Desk();
        used.x.question(20, 31);
        used.x.mark(0, 0, 5);
        used.rules("say 0 when 0=0;");
        used.phrase(0, 0, "a");
        used.x.write(0, 0);
        used.type("rest");
        Desk fresh = new Desk();
        Desk.due("1: another object, its TAPE", fresh.x.end(1), false);
        Desk.due("1: another object, its OUT", fresh.x.out(0), NONE);
        Desk.due("1: another object, its QUESTIONS", fresh.x.question(3, 1), 0);
        fresh.x.mark(0, 0, 1);
        Desk.due("1: another object, its RULES", fresh.x.page(0), 0);
        fresh.rules("say 0 when 0=0;");
        Desk.due("1: another object, its PHRASES", fresh.x.write(0, 0), 0);
        Desk.due("1: the first one still", used.lines(0), "0/0/0/1 0/1/0/1 0/2/0/1 0/3/0/1 0/4/0/1");
        Desk.due("1: the first one's TAPE", used.x.end(4), true);
    }

    private static void mostsOneToTwenty() {
        MarkPages x = new MarkPages();
        Desk.range("2: MOST 1 .. 20", 1, 20, most -> x.question(most, 1) != NONE);
        Desk.due("2: MOST 0", x.question(0, 1), NONE);
        Desk.due("2: only the two came", x.of(2, 0), NONE);
        for (int most = 1; most <= 20; most++) {
            MarkPages each = new MarkPages();
            Desk.due("2: a MOST of " + most, each.question(most, 31), 0);
            Desk.due("4: a MOST of " + most, each.of(0, 0), most);
        }
    }

    private static void skillSetsNotEmpty() {
        MarkPages x = new MarkPages();
        Desk.range("2: SKILLS a set of 0 .. 4, not empty", 1, 31, skills -> x.question(1, skills) != NONE);
        int[] wrong = {0, 32, 33, 63, -31, -32, 1 << 30, Integer.MIN_VALUE + 1};
        for (int skills : wrong) {
            Desk.due("2: SKILLS " + skills, x.question(1, skills), NONE);
        }
        Desk.due("2: only the two came", x.of(2, 0), NONE);
        for (int skills = 1; skills <= 31; skills++) {
            MarkPages each = new MarkPages();
            Desk.due("2: a set " + skills, each.question(20, skills), 0);
            Desk.due("4: a set " + skills, each.of(0, 1), skills);
            each.mark(0, 0, 1);
            for (int s = 0; s < 5; s++) {
                Desk.due("5: SKILL " + s + " of the set " + skills, each.got(0, s, 0), skills >> s & 1);
            }
        }
    }

    private static void numberedAsTheyCome() {
        MarkPages x = new MarkPages();
        for (int q = 0; q < 10; q++) {
            Desk.due("2: a wrong MOST comes not", x.question(21, 1), NONE);
            Desk.due("2: a wrong set comes not", x.question(20, 32), NONE);
            Desk.due("2: both wrong come not", x.question(0, 0), NONE);
            Desk.due("2: its number", x.question(q + 1, q + 2), q);
        }
        for (int q = 0; q < 10; q++) {
            Desk.due("4: MOST of " + q, x.of(q, 0), q + 1);
            Desk.due("4: SKILLS of " + q, x.of(q, 1), q + 2);
        }
    }

    private static void tenQuestions() {
        MarkPages x = new MarkPages();
        for (int q = 0; q < 9; q++) {
            x.question(5, 1);
        }
        Desk.due("2: the tenth", x.question(20, 31), 9);
        for (int i = 0; i < 3; i++) {
            Desk.due("2: there are 10", x.question(1, 2), NONE);
        }
        Desk.due("2: the tenth stays", x.of(9, 0) * 100 + x.of(9, 1), 2031);
        Desk.due("2: the first stays", x.of(0, 0) * 100 + x.of(0, 1), 501);
        Desk.due("2: no eleventh", x.of(10, 0), NONE);
        Desk.due("3: no mark of an eleventh", x.mark(0, 10, 0), false);
        Desk.due("3: of the tenth one", x.mark(7, 9, 20), true);
        Desk.due("4: of the tenth one", x.of(9, 17), 20);
    }

    private static void pupilsOfMark() {
        MarkPages x = new MarkPages();
        x.question(20, 1);
        Desk.range("3: PUPILS 0 .. 7", 0, 7, p -> x.mark(p, 0, 3));
        Desk.range("3: PUPILS 0 .. 7, none", 0, 7, p -> x.mark(p, 0, -1));
        for (int p = 0; p < 8; p++) {
            Desk.due("3: each PUPIL", x.mark(p, 0, p + 2), true);
        }
        for (int p = 0; p < 8; p++) {
            Desk.due("3: its own points", x.of(0, 10 + p), p + 2);
        }
    }

    private static void questionsOfMark() {
        MarkPages x = new MarkPages();
        for (int q = 0; q < 10; q++) {
            x.question(20, 1);
            int last = q;
            Desk.range("3: QUESTIONS 0 .. " + q, 0, last, n -> x.mark(3, n, 1));
        }
        for (int q = 0; q < 10; q++) {
            Desk.due("3: the PUPIL before", x.of(q, 12), NONE);
            Desk.due("3: the PUPIL behind", x.of(q, 14), NONE);
        }
    }

    private static void pointsUpToMost() {
        for (int most = 1; most <= 20; most++) {
            MarkPages x = new MarkPages();
            x.question(most, 1);
            Desk.range("3: points 0 .. " + most + " or none", -1, most, n -> x.mark(0, 0, n));
            Desk.due("3: the wrong ones did nothing", x.of(0, 10), most);
            Desk.due("3: 0 points", x.mark(0, 0, 0), true);
            Desk.due("3: beyond MOST", x.mark(0, 0, most + 1), false);
            Desk.due("3: below none", x.mark(0, 0, -2), false);
            Desk.due("3: 0 points stay", x.of(0, 10), 0);
        }
    }

    /** MOST is the one of the QUESTION told, not of another, nor 20. */
    private static void pointsOfAnotherMost() {
        MarkPages x = new MarkPages();
        x.question(1, 1);
        x.question(20, 1);
        x.question(5, 1);
        Desk.due("3: 2 of 1", x.mark(0, 0, 2), false);
        Desk.due("3: 20 of 20", x.mark(0, 1, 20), true);
        Desk.due("3: 21 of 20", x.mark(0, 1, 21), false);
        Desk.due("3: 6 of 5", x.mark(0, 2, 6), false);
        Desk.due("3: 5 of 5", x.mark(0, 2, 5), true);
        Desk.due("3: none by the refused", x.of(0, 10), NONE);
    }

    private static void noneAtFirstAndAgain() {
        MarkPages x = new MarkPages();
        x.question(20, 1);
        for (int p = 0; p < 8; p++) {
            Desk.due("4: none at first", x.of(0, 10 + p), NONE);
        }
        Desk.due("3: none is told of none", x.mark(0, 0, -1), true);
        Desk.due("4: none still", x.of(0, 10), NONE);
        Desk.due("3: 0 points", x.mark(0, 0, 0), true);
        Desk.due("4: 0 is not none", x.of(0, 10), 0);
        Desk.due("3: none", x.mark(0, 0, -1), true);
        Desk.due("4: none again", x.of(0, 10), NONE);
        Desk.due("5: nothing marked", x.got(0, 0, 0), 0);
    }

    private static void questionsOf() {
        MarkPages x = new MarkPages();
        for (int q = 0; q < 10; q++) {
            x.question(20, 1);
            x.mark(7, q, 3);
            int last = q;
            int what = q % 3 == 2 ? 17 : q % 3;
            Desk.range("4: what " + what + " of QUESTIONS 0 .. " + q, 0, last, n -> x.of(n, what) != NONE);
        }
    }

    private static void whatsOf() {
        MarkPages x = new MarkPages();
        x.question(20, 31);
        for (int p = 0; p < 8; p++) {
            x.mark(p, 0, p);
        }
        Desk.range("4: what 0, 1", 0, 1, what -> x.of(0, what) != NONE);
        Desk.range("4: what 10 .. 17", 10, 17, what -> x.of(0, what) != NONE);
        for (int what = 2; what < 10; what++) {
            Desk.due("4: another what, " + what, x.of(0, what), NONE);
        }
        Desk.due("4: what 10 is PUPIL 0", x.of(0, 10), 0);
        Desk.due("4: what 17 is PUPIL 7", x.of(0, 17), 7);
    }

    private static void pupilsSkillsAndWhatsOfGot() {
        MarkPages x = new MarkPages();
        Desk.range("5: PUPILS 0 .. 7, without QUESTIONS", 0, 7, p -> x.got(p, 0, 0) != NONE);
        x.question(20, 31);
        x.mark(0, 0, 20);
        x.mark(7, 0, 20);
        for (int what = 0; what < 5; what++) {
            int told = what;
            Desk.range("5: PUPILS 0 .. 7, what " + what, 0, 7, p -> x.got(p, 0, told) != NONE);
            Desk.range("5: SKILLS 0 .. 4, what " + what, 0, 4, s -> x.got(0, s, told) != NONE);
        }
        Desk.range("5: what 0 .. 4", 0, 4, what -> x.got(7, 4, what) != NONE);
    }

    private static void gotAll(String why, MarkPages x, int p, int s, int... want) {
        for (int what = 0; what < 5; what++) {
            Desk.due("5: " + why + ", what " + what, x.got(p, s, what), want[what]);
        }
    }

    private static void zeroWithoutAny() {
        MarkPages x = new MarkPages();
        gotAll("without a QUESTION", x, 0, 0, 0, 0, 0, 0, 0);
        x.question(20, 1);
        gotAll("without points", x, 7, 0, 0, 0, 0, 0, 0);
        x.mark(0, 0, 13);
        gotAll("without a QUESTION of the SKILL", x, 0, 4, 0, 0, 0, 0, 0);
        gotAll("without points of its own", x, 7, 0, 0, 0, 0, 0, 65);
        gotAll("with points", x, 0, 0, 1, 65, 0, 65, 65);
    }

    private static void zeroWithoutAnyAgain() {
        MarkPages x = new MarkPages();
        x.question(20, 3);
        x.mark(0, 0, 13);
        x.mark(0, 0, -1);
        gotAll("the one mark taken back", x, 0, 0, 0, 0, 0, 0, 0);
        gotAll("of the other SKILL too", x, 0, 1, 0, 0, 0, 0, 0);
    }

    private static void dividedDownwards() {
        MarkPages x = new MarkPages();
        for (int q = 0; q < 10; q++) {
            x.question(20, 1);
            x.mark(0, q, q == 9 ? 19 : 20);
            x.mark(1, q, q == 9 ? 1 : 0);
            x.mark(2, q, 20);
            x.mark(3, q, q == 9 ? 2 : 0);
        }
        Desk.due("5: 199 of 200, downwards", x.got(0, 0, 1), 99);
        Desk.due("5: 1 of 200, downwards", x.got(1, 0, 1), 0);
        Desk.due("5: 200 of 200", x.got(2, 0, 1), 100);
        Desk.due("5: 2 of 200", x.got(3, 0, 1), 1);

        MarkPages y = new MarkPages();
        y.question(3, 1);
        y.question(7, 2);
        y.mark(0, 0, 2);
        y.mark(0, 1, 6);
        Desk.due("5: last 2 of 3, downwards", y.got(0, 0, 3), 66);
        Desk.due("5: last 6 of 7, downwards", y.got(0, 1, 3), 85);
        Desk.due("5: class 6 of 7, downwards", y.got(0, 1, 4), 85);
    }

    private static void missedHasPoints() {
        MarkPages x = new MarkPages();
        for (int q = 0; q < 10; q++) {
            x.question(1, 1);
        }
        Desk.due("5: none is not missed", x.got(0, 0, 2), 0);
        x.mark(0, 3, 1);
        Desk.due("5: 1 point is not missed", x.got(0, 0, 2), 0);
        x.mark(0, 3, 0);
        Desk.due("5: 0 points are missed", x.got(0, 0, 2), 1);
        for (int q = 0; q < 10; q++) {
            x.mark(0, q, 0);
        }
        Desk.due("5: all ten are missed", x.got(0, 0, 2), 10);
        Desk.due("5: all ten are marked", x.got(0, 0, 0), 10);
        x.mark(0, 9, -1);
        Desk.due("5: none is missed no more", x.got(0, 0, 2), 9);
    }

    /** The greatest number counts, not the latest call; of those of the SKILL that have points. */
    private static void lastHasTheGreatestNumber() {
        MarkPages x = new MarkPages();
        for (int q = 0; q < 10; q++) {
            x.question(20, q == 9 ? 2 : 1);
        }
        x.mark(0, 8, 4);
        x.mark(0, 0, 20);
        Desk.due("5: the greatest of two", x.got(0, 0, 3), 20);
        x.mark(0, 9, 20);
        Desk.due("5: one of another SKILL", x.got(0, 0, 3), 20);
        Desk.due("5: that SKILL's own", x.got(0, 1, 3), 100);
        x.mark(0, 8, 0);
        Desk.due("5: with 0 points", x.got(0, 0, 3), 0);
        x.mark(0, 8, -1);
        Desk.due("5: without points it is another", x.got(0, 0, 3), 100);
    }

    private static void classOfThoseMarked() {
        MarkPages x = new MarkPages();
        x.question(20, 1);
        x.question(20, 2);
        x.mark(0, 1, 20);
        Desk.due("5: class of none marked", x.got(0, 0, 4), 0);
        x.mark(0, 0, 10);
        Desk.due("5: those without a mark don't count", x.got(7, 0, 4), 50);
        x.mark(7, 0, 0);
        Desk.due("5: a share of 0 counts", x.got(0, 0, 4), 0);
        x.mark(7, 0, -1);
        Desk.due("5: taken back it does not", x.got(0, 0, 4), 50);
    }

    /** Of n in rising order the one at place (n - 1) / 2, whichever PUPILS they are. */
    private static void classAtItsPlace() {
        for (int n = 1; n <= 8; n++) {
            MarkPages rising = new MarkPages();
            MarkPages falling = new MarkPages();
            rising.question(20, 16);
            falling.question(20, 16);
            for (int i = 0; i < n; i++) {
                rising.mark(i, 0, 2 * i + 1);
                falling.mark(7 - i, 0, 2 * i + 1);
            }
            int place = n % 2 == 0 ? n / 2 - 1 : n / 2;
            for (int p = 0; p < 8; p++) {
                Desk.due("5: class of " + n, rising.got(p, 4, 4), 10 * place + 5);
                Desk.due("5: class of " + n + ", falling", falling.got(p, 4, 4), 10 * place + 5);
            }
        }
    }
}
