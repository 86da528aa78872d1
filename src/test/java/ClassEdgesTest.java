/** Promises 16, 17 and 18: each sentence that bounds ALIKE PUPILS, the SHEET and groups, by itself. */
public final class ClassEdgesTest {
    private static final int NONE = MarkPages.NONE;

    public static void main(String[] args) {
        pupilsOfAlike();
        alikeWithoutLines();
        alikeBySayings();
        alikeBySkills();
        alikeInOrder();
        alikeUpToTheLastLine();
        alikeWithoutThoseLeftOut();
        alikeByLinesAlone();
        skillsAndSortsOfSheet();
        sheetOfNoneToEight();
        sheetBySorts();
        sheetWithoutThoseLeftOut();
        pupilsOfGroup();
        noGroups();
        onlyPupilsWithAMark();
        zeroPointsAreAMark();
        oneGroup();
        eightGroups();
        numbersByLeastPupils();
        Desk.finish();
    }

    /** Eight PUPILS by one QUESTION of all SKILLS; none is marked yet. */
    private static Desk desk(String rules) {
        Desk desk = new Desk();
        desk.x.question(20, 31);
        desk.rules(rules);
        return desk;
    }

    private static void pupilsOfAlike() {
        Desk desk = desk("say 0 when 0=0;");
        Desk.range("16: the first of PUPILS 0 .. 7", 0, 7, p -> desk.x.alike(p, 0) != NONE);
        Desk.range("16: the second of PUPILS 0 .. 7", 0, 7, p -> desk.x.alike(0, p) != NONE);
        Desk.range("16: the first beside the last", 0, 7, p -> desk.x.alike(p, 7) != NONE);
        Desk.range("16: the same twice", 0, 7, p -> desk.x.alike(p, p) == 1);
        for (int p : Desk.outside(0, 7)) {
            Desk.due("16: both none, " + p, desk.x.alike(p, p), NONE);
        }
    }

    private static void alikeWithoutLines() {
        Desk desk = desk("say 0 when share > 50;");
        Desk.due("16: neither marked", desk.x.alike(0, 7), 1);
        desk.x.mark(0, 0, 10);
        Desk.due("16: one marked, no LINES", desk.x.alike(0, 7), 1);
        desk.x.mark(0, 0, 11);
        Desk.due("16: LINES and none", desk.x.alike(0, 7), 0);
        Desk.due("16: none and LINES", desk.x.alike(7, 0), 0);
        Desk.due("16: of a new object", new MarkPages().alike(0, 7), 1);
    }

    private static void alikeBySayings() {
        Desk desk = desk("say 0 skill 0 when share > 50; say 1 skill 0 when 0=0;");
        desk.x.mark(0, 0, 10);
        desk.x.mark(7, 0, 11);
        Desk.due("16: another SAYING of the SORT", desk.x.alike(0, 7), 0);
        desk.x.mark(0, 0, 20);
        Desk.due("16: the same SAYING", desk.x.alike(0, 7), 1);
    }

    private static void alikeBySkills() {
        Desk desk = new Desk();
        desk.x.question(20, 1);
        desk.x.question(20, 2);
        desk.rules("say 0 when 0=0;");
        desk.x.mark(0, 0, 10);
        desk.x.mark(7, 1, 10);
        Desk.due("16: another SKILL", desk.x.alike(0, 7), 0);
        desk.x.mark(7, 0, 10);
        Desk.due("16: one more", desk.x.alike(0, 7), 0);
        Desk.due("16: one fewer", desk.x.alike(7, 0), 0);
        desk.x.mark(0, 1, 10);
        Desk.due("16: the same SKILLS", desk.x.alike(0, 7), 1);
    }

    private static void alikeInOrder() {
        Desk desk = desk("say 0 skill 0 when share > 50; say 10 skill 0 when 0=0; say 0 skill 0 when 0=0;");
        desk.x.mark(0, 0, 20);
        desk.x.mark(7, 0, 1);
        Desk.due("12: two LINES", desk.x.page(0), 2);
        Desk.due("12: the same two", desk.x.page(7), 2);
        Desk.due("16: in another order", desk.x.alike(0, 7), 0);
    }

    private static void alikeUpToTheLastLine() {
        Desk desk = desk("say 0 when 0=0; say 10 when 0=0; say 20 skill 0 when 0=0;"
            + "say 20 skill 1 when share > 50; say 21 skill 1 when 0=0;");
        desk.x.mark(0, 0, 20);
        desk.x.mark(7, 0, 1);
        Desk.due("12: twelve LINES", desk.x.page(0) + desk.x.page(7), 24);
        Desk.due("16: only the twelfth differs", desk.x.alike(0, 7), 0);
        desk.x.mark(7, 0, 11);
        Desk.due("16: not even the twelfth", desk.x.alike(0, 7), 1);
    }

    private static void alikeWithoutThoseLeftOut() {
        Desk desk = desk("say 0 when 0=0; say 10 when 0=0; say 20 skill 0 when 0=0; say 20 skill 1 when 0=0;"
            + "say 20 skill 2 when share > 50; say 21 skill 2 when 0=0;");
        desk.x.mark(0, 0, 20);
        desk.x.mark(7, 0, 1);
        Desk.due("16: only one left out would differ", desk.x.alike(0, 7), 1);
        Desk.due("18: one group", desk.x.group(-1), 1);
    }

    /** The RULE by which a LINE came, and what bears it, are not the LINE. */
    private static void alikeByLinesAlone() {
        Desk desk = new Desk();
        desk.x.question(20, 1);
        desk.x.question(20, 1);
        desk.rules("say 0 when share > 50; say 0 when 0=0;");
        desk.x.mark(0, 0, 20);
        desk.x.mark(7, 1, 1);
        Desk.due("13: by RULE 0 and QUESTION 0", desk.lines(0), "0/0/0/1");
        Desk.due("13: by RULE 1 and QUESTION 1", desk.lines(7), "0/0/1/2");
        Desk.due("16: the same LINES", desk.x.alike(0, 7), 1);
    }

    private static void skillsAndSortsOfSheet() {
        Desk desk = desk("say 0 when 0=0; say 10 when 0=0; say 20 skill 4 when 0=0; say 30 skill 4 when 0=0;");
        Desk.range("17: SKILLS 0 .. 4, without a mark", 0, 4, s -> desk.x.sheet(s, 0) == 0);
        Desk.range("17: SORTS 0 .. 3, without a mark", 0, 3, sort -> desk.x.sheet(4, sort) == 0);
        desk.x.mark(7, 0, 1);
        for (int sort = 0; sort < 2; sort++) {
            int told = sort;
            Desk.range("17: SKILLS 0 .. 4, SORT " + sort, 0, 4, s -> desk.x.sheet(s, told) == 1);
        }
        Desk.range("17: SORTS 0 .. 3", 0, 3, sort -> desk.x.sheet(4, sort) == 1);
        for (int s : Desk.outside(0, 4)) {
            Desk.due("17: SKILL " + s, desk.x.sheet(s, 3), NONE);
        }
        for (int sort : Desk.outside(0, 3)) {
            Desk.due("17: SORT " + sort, desk.x.sheet(0, sort), NONE);
        }
        Desk.due("17: both wrong", desk.x.sheet(5, 4), NONE);
    }

    private static void sheetOfNoneToEight() {
        Desk desk = desk("say 9 when share > 50;");
        Desk.due("17: none", desk.x.sheet(2, 0), 0);
        for (int p = 0; p < 8; p++) {
            desk.x.mark(p, 0, 10);
            Desk.due("17: not so for " + p, desk.x.sheet(2, 0), p);
            desk.x.mark(p, 0, 11);
            Desk.due("17: so for " + p, desk.x.sheet(2, 0), p + 1);
        }
        for (int p = 0; p < 8; p++) {
            desk.x.mark(p, 0, -1);
            Desk.due("17: taken back", desk.x.sheet(2, 0), 7 - p);
        }
    }

    /** SAYINGS 9 and 10, 19 and 20, 29 and 30 are neighbours of other SORTS. */
    private static void sheetBySorts() {
        for (int saying = 0; saying < 40; saying++) {
            Desk desk = desk("say " + saying + " skill 3 when 0=0;");
            desk.x.mark(5, 0, 1);
            for (int sort = 0; sort < 4; sort++) {
                Desk.due("17: SORT " + sort + " of " + saying, desk.x.sheet(3, sort), saying / 10 == sort ? 1 : 0);
            }
            Desk.due("17: the SKILL before", desk.x.sheet(2, saying / 10), 0);
            Desk.due("17: the SKILL behind", desk.x.sheet(4, saying / 10), 0);
        }
    }

    private static void sheetWithoutThoseLeftOut() {
        Desk desk = desk("say 0 when 0=0; say 10 when 0=0; say 20 when 0=0; say 30 when 0=0;");
        desk.x.mark(0, 0, 1);
        int[][] want = {{1, 1, 1, 0}, {1, 1, 1, 0}, {1, 1, 0, 0}, {1, 1, 0, 0}, {1, 1, 0, 0}};
        for (int s = 0; s < 5; s++) {
            for (int sort = 0; sort < 4; sort++) {
                Desk.due("17: of SKILL " + s + ", SORT " + sort, desk.x.sheet(s, sort), want[s][sort]);
            }
        }
    }

    private static void pupilsOfGroup() {
        Desk desk = desk("say 0 when 0=0;");
        for (int p = 0; p < 8; p++) {
            desk.x.mark(p, 0, 5);
        }
        Desk.range("18: PUPILS 0 .. 7, and -1", -1, 7, p -> desk.x.group(p) != NONE);
        Desk.due("18: -1 is how many", desk.x.group(-1), 1);
        Desk.due("18: 0 is a number", desk.x.group(0), 0);
        Desk.due("18: -2 is no PUPIL", desk.x.group(-2), NONE);
    }

    private static void noGroups() {
        Desk desk = desk("say 0 when 0=0;");
        Desk.due("18: none", desk.x.group(-1), 0);
        for (int p = 0; p < 8; p++) {
            Desk.due("18: none with a mark, " + p, desk.x.group(p), NONE);
        }
    }

    /** Those without a mark are ALIKE one without LINES, and yet in no group. */
    private static void onlyPupilsWithAMark() {
        Desk desk = desk("say 0 when share > 50;");
        desk.x.mark(3, 0, 1);
        Desk.due("16: alike", desk.x.alike(3, 4), 1);
        Desk.due("18: one group", desk.x.group(-1), 1);
        for (int p = 0; p < 8; p++) {
            Desk.due("18: of " + p, desk.x.group(p), p == 3 ? 0 : NONE);
        }
        desk.x.mark(3, 0, -1);
        Desk.due("18: taken back", desk.x.group(3), NONE);
        Desk.due("18: no group", desk.x.group(-1), 0);
    }

    private static void zeroPointsAreAMark() {
        for (int q = 0; q < 10; q++) {
            Desk desk = new Desk();
            for (int i = 0; i < 10; i++) {
                desk.x.question(1, 16);
            }
            desk.x.mark(7, q, 0);
            Desk.due("18: 0 points for " + q, desk.x.group(7), 0);
            Desk.due("18: one group by " + q, desk.x.group(-1), 1);
            Desk.due("18: the one before has none", desk.x.group(6), NONE);
        }
    }

    private static void oneGroup() {
        Desk desk = desk("say 0 when 0=0;");
        for (int p = 7; p >= 0; p--) {
            desk.x.mark(p, 0, p);
            Desk.due("18: one group of " + (8 - p), desk.x.group(-1), 1);
        }
        for (int p = 0; p < 8; p++) {
            Desk.due("18: all in it, " + p, desk.x.group(p), 0);
        }
    }

    /** Three QUESTIONS tell eight PUPILS apart, one of them without LINES. */
    private static void eightGroups() {
        Desk desk = new Desk();
        for (int q = 0; q < 3; q++) {
            desk.x.question(1, 1 << q);
        }
        desk.rules("say 0 when share = 100;");
        for (int p = 0; p < 8; p++) {
            for (int q = 0; q < 3; q++) {
                desk.x.mark(p, q, p >> q & 1);
            }
            Desk.due("18: groups of " + (p + 1), desk.x.group(-1), p + 1);
        }
        for (int p = 0; p < 8; p++) {
            Desk.due("18: each its own, " + p, desk.x.group(p), p);
        }
    }

    private static void numbersByLeastPupils() {
        Desk desk = desk("say 0 when share > 90; say 1 when share > 40; say 2 when 0=0;");
        int[] points = {-1, 1, 20, 1, 10, 20, -1, 10};
        int[] want = {NONE, 0, 1, 0, 2, 1, NONE, 2};
        for (int p = 7; p >= 0; p--) {
            desk.x.mark(p, 0, points[p]);
        }
        for (int p = 0; p < 8; p++) {
            Desk.due("18: the number of " + p, desk.x.group(p), want[p]);
        }
        desk.x.mark(0, 0, 10);
        int[] then = {0, 1, 2, 1, 0, 2, NONE, 0};
        for (int p = 0; p < 8; p++) {
            Desk.due("18: by a new least PUPIL, " + p, desk.x.group(p), then[p]);
        }
        Desk.due("18: three still", desk.x.group(-1), 3);
    }
}
