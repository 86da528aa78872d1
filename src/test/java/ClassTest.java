/** Promises 16, 17 and 18: ALIKE PUPILS, the CLASS's SHEET, and its groups. */
public final class ClassTest {
    private static final int LOW = Integer.MIN_VALUE;
    private static final int HIGH = Integer.MAX_VALUE;

    public static void main(String[] args) {
        alike();
        alikeByLines();
        alikeAfterLonger();
        sheet();
        groups();
        groupsByTen();
        Desk.finish();
    }

    private static Desk desk() {
        Desk desk = new Desk();
        desk.x.question(10, 1);
        desk.x.question(10, 2);
        desk.rules("say 1 when share > 69; say 11 when missed > 0; say 21 skill 1 when share > 89;");
        return desk;
    }

    private static void alike() {
        Desk desk = desk();
        int[] wrong = {-1, 8, LOW, HIGH};
        for (int p : wrong) {
            Desk.due("16: first " + p, desk.x.alike(p, 0), -1);
            Desk.due("16: second " + p, desk.x.alike(0, p), -1);
            Desk.due("16: both " + p, desk.x.alike(p, p), -1);
        }
        Desk.due("16: empty pages", desk.x.alike(0, 7), 1);
        desk.x.mark(0, 0, 7);
        desk.x.mark(1, 0, 9);
        Desk.due("16: the same lines", desk.x.alike(0, 1), 1);
        desk.x.mark(1, 1, 5);
        Desk.due("16: still", desk.x.alike(1, 0), 1);
        desk.x.mark(1, 1, 7);
        Desk.due("16: one has a line more", desk.x.alike(0, 1), 0);
        Desk.due("16: the other way", desk.x.alike(1, 0), 0);
        desk.x.mark(0, 1, 0);
        Desk.due("16: other sayings", desk.x.alike(0, 1), 0);
        desk.x.mark(2, 1, 8);
        desk.x.mark(3, 0, 8);
        Desk.due("16: other skills", desk.x.alike(2, 3), 0);
        Desk.due("16: itself", desk.x.alike(3, 3), 1);
        desk.x.mark(4, 0, 5);
        Desk.due("16: marked without lines, and not marked", desk.x.alike(4, 5), 1);
    }

    private static void alikeByLines() {
        Desk desk = new Desk();
        desk.x.question(10, 1);
        desk.x.question(10, 1);
        desk.rules("say 1 when share > 50; say 1 when share < 51; say 11 when marked > 1;");
        desk.x.mark(0, 0, 9);
        desk.x.mark(1, 1, 1);
        Desk.due("13: by one rule", desk.lines(0), "1/0/0/1");
        Desk.due("13: by another, borne by another", desk.lines(1), "1/0/1/2");
        Desk.due("16: the lines are the same", desk.x.alike(0, 1), 1);
        Desk.due("18: one group", desk.x.group(-1), 1);

        Desk order = new Desk();
        order.x.question(10, 1);
        order.rules("say 1 when share > 50; say 11 when 0=0; say 1 when 0=0;");
        order.x.mark(0, 0, 9);
        order.x.mark(1, 0, 1);
        Desk.due("16: another order", order.x.alike(0, 1), 0);
    }

    /** PAGES that were longer before, and PAGES as long as can be. */
    private static void alikeAfterLonger() {
        Desk desk = new Desk();
        desk.x.question(10, 31);
        desk.rules("say 0 when 0=0; say 10 when 0=0; say 20 when share > 50; say 21 when 0=0;");
        desk.x.mark(0, 0, 9);
        desk.x.mark(1, 0, 8);
        desk.x.mark(2, 0, 1);
        Desk.due("16: twelve lines", desk.x.alike(0, 1), 1);
        Desk.due("16: twelve others", desk.x.alike(0, 2), 0);
        desk.rules("say 30 skill 0 when 0=0; say 0 skill 1 when 0=0;");
        Desk.due("16: shorter now", desk.x.alike(0, 2), 1);
        desk.rules("");
        Desk.due("16: empty now", desk.x.alike(0, 2), 1);
        Desk.due("17: empty now", desk.x.sheet(0, 3), 0);
        Desk.due("18: empty now", desk.x.group(-1), 1);
    }

    private static void sheet() {
        Desk desk = desk();
        int[] wrongSkills = {-1, 5, LOW, HIGH};
        for (int s : wrongSkills) {
            Desk.due("17: skill " + s, desk.x.sheet(s, 0), -1);
        }
        int[] wrongSorts = {-1, 4, LOW, HIGH};
        for (int sort : wrongSorts) {
            Desk.due("17: sort " + sort, desk.x.sheet(0, sort), -1);
        }
        Desk.due("17: no marks", desk.x.sheet(4, 3), 0);
        for (int p = 0; p < 8; p++) {
            desk.x.mark(p, 0, p < 5 ? 8 : 0);
            desk.x.mark(p, 1, p + 3);
        }
        Desk.due("17: sure of 0", desk.x.sheet(0, 0), 5);
        Desk.due("17: slipped in 0", desk.x.sheet(0, 1), 3);
        Desk.due("17: next of 0", desk.x.sheet(0, 2), 0);
        Desk.due("17: sure of 1", desk.x.sheet(1, 0), 4);
        Desk.due("17: slipped in 1", desk.x.sheet(1, 1), 0);
        Desk.due("17: next of 1", desk.x.sheet(1, 2), 2);
        Desk.due("17: sort 3", desk.x.sheet(1, 3), 0);
        Desk.due("17: skill 2", desk.x.sheet(2, 0), 0);
    }

    private static void groupsByTen() {
        Desk desk = new Desk();
        for (int q = 0; q < 10; q++) {
            desk.x.question(5, 1);
        }
        desk.x.mark(1, 0, 5);
        desk.x.mark(3, 9, 5);
        int[] want = {-1, 0, -1, 0, -1, -1, -1, -1};
        for (int p = 0; p < 8; p++) {
            Desk.due("18: by ten questions, of " + p, desk.x.group(p), want[p]);
        }
        Desk.due("18: no rules, one group", desk.x.group(-1), 1);
    }

    private static void groups() {
        Desk desk = desk();
        Desk.due("18: none yet", desk.x.group(-1), 0);
        int[] wrong = {-2, 8, LOW, HIGH};
        for (int p : wrong) {
            Desk.due("18: pupil " + p, desk.x.group(p), -1);
        }
        desk.x.mark(6, 0, 5);
        Desk.due("18: one, with no lines", desk.x.group(-1), 1);
        Desk.due("18: its number", desk.x.group(6), 0);
        Desk.due("18: alike but not marked", desk.x.group(5), -1);
        desk.x.mark(2, 0, 8);
        desk.x.mark(4, 0, 0);
        desk.x.mark(5, 0, 9);
        desk.x.mark(7, 0, 6);
        Desk.due("18: three", desk.x.group(-1), 3);
        int[] want = {-1, -1, 0, -1, 1, 0, 2, 2};
        for (int p = 0; p < 8; p++) {
            Desk.due("18: group of " + p, desk.x.group(p), want[p]);
        }
        desk.x.mark(0, 1, 9);
        int[] then = {0, -1, 1, -1, 2, 1, 3, 3};
        for (int p = 0; p < 8; p++) {
            Desk.due("18: then of " + p, desk.x.group(p), then[p]);
        }
        desk.x.mark(2, 0, -1);
        int[] later = {0, -1, -1, -1, 1, 2, 3, 3};
        for (int p = 0; p < 8; p++) {
            Desk.due("18: later of " + p, desk.x.group(p), later[p]);
        }
        for (int p = 0; p < 8; p++) {
            desk.x.mark(p, 1, -1);
            desk.x.mark(p, 0, -1);
        }
        Desk.due("18: none again", desk.x.group(-1), 0);
    }
}
