import java.util.Map;
import java.util.function.Predicate;
import java.util.function.ToIntFunction;

/**
 * Where the document says that nothing is done, or that something stays: after the refused call all that
 * can be seen is what it was without that call.
 */
public final class RefusedTest {
    private static final int NONE = MarkPages.NONE;
    private static final int LOW = Integer.MIN_VALUE;
    private static final int HIGH = Integer.MAX_VALUE;

    private final String name;
    private final Script state;
    private final Map<String, String> before;

    private RefusedTest(String name, Script state) {
        this.name = name;
        this.state = state;
        before = Look.at(state);
    }

    public static void main(String[] args) {
        RefusedTest fresh = new RefusedTest("new", States.fresh());
        RefusedTest used = new RefusedTest("used", States.used());
        RefusedTest full = new RefusedTest("full", States.full());
        statesAreWhatTheySay(used, full);
        RefusedTest[] all = {fresh, used, full};
        for (RefusedTest each : all) {
            each.questions();
            each.marks();
            each.ends();
            each.writes();
            each.faultyRules();
            each.phrases();
            each.names();
            each.readersOfPapers();
            each.readersOfPages();
        }
        full.eleventhQuestion();
        full.feeds();
        Desk.finish();
    }

    /** The looks would agree on anything if there were nothing to see. */
    private static void statesAreWhatTheySay(RefusedTest used, RefusedTest full) {
        MarkPages x = used.state.play();
        Desk.due("used: QUESTIONS", x.of(2, 0) * 10 + x.of(3, 0), 199);
        Desk.due("used: LINES", x.page(0) * 100 + x.page(3) * 10 + x.page(7), 721);
        Desk.due("used: OUT", new Desk(x).written(), "a add: 72\na sub: 41\na : 70\na : 70\na : 70\n");
        Desk.due("used: FAULT", used.before.get(Look.FAULT), "2@4");
        Desk.due("used: TAPE", x.feed(0, 0, 0, 0, 0), 38);
        MarkPages y = full.state.play();
        Desk.due("full: the eleventh", y.question(1, 1), NONE);
        Desk.due("full: LINES", y.page(0), 12);
        Desk.due("full: TAPE", y.end(600) && y.feed(0, 0, 0, 0, 0) == NONE, true);
    }

    private void none(String call, ToIntFunction<MarkPages> refused) {
        String what = name + ": " + call;
        Desk.due(what, refused.applyAsInt(state.play()), NONE);
        Look.same(what, before, state.copy().then(refused::applyAsInt));
    }

    private void refuses(String call, Predicate<MarkPages> refused) {
        String what = name + ": " + call;
        Desk.due(what, refused.test(state.play()), false);
        Look.same(what, before, state.copy().then(refused::test));
    }

    private void questions() {
        int[][] wrong = {{0, 1}, {21, 1}, {-1, 1}, {LOW, 1}, {HIGH, 1}, {1, 0}, {20, 32}, {20, -1}, {20, 33},
            {20, LOW}, {20, HIGH}, {0, 0}, {21, 32}};
        for (int[] w : wrong) {
            none("question(" + w[0] + ", " + w[1] + ")", x -> x.question(w[0], w[1]));
        }
    }

    private void eleventhQuestion() {
        int[][] good = {{1, 1}, {20, 31}, {7, 4}};
        for (int[] g : good) {
            none("question(" + g[0] + ", " + g[1] + ")", x -> x.question(g[0], g[1]));
        }
    }

    private void mark(int p, int q, int points) {
        refuses("mark(" + p + ", " + q + ", " + points + ")", x -> x.mark(p, q, points));
    }

    private void marks() {
        int count = name.equals("new") ? 0 : name.equals("used") ? 3 : 10;
        int[] pupils = {-1, 8, LOW, HIGH};
        for (int p : pupils) {
            mark(p, 0, 1);
            mark(p, 2, -1);
        }
        int[] questions = {-1, count, 10, 11, LOW, HIGH};
        for (int q : questions) {
            mark(0, q, 1);
            mark(7, q, 0);
            mark(3, q, -1);
        }
        MarkPages x = state.play();
        for (int q = 0; q < count; q += 2) {
            int[] points = {-2, x.of(q, 0) + 1, 21, LOW, HIGH};
            for (int n : points) {
                mark(0, q, n);
            }
        }
    }

    private void feeds() {
        none("feed(0, ..)", x -> x.feed(0, 0, 0, 0, 0));
        none("feed(-1, ..)", x -> x.feed(-1, -1, -1, -1, -1));
        none("feed(least and greatest)", x -> x.feed(LOW, HIGH, LOW, HIGH, LOW));
        Script cut = state.copy().cut(581);
        RefusedTest each = new RefusedTest("full but for 19", cut);
        each.none("feed(0, ..)", x -> x.feed(0, 0, 0, 0, 0));
        each.none("feed(-1, ..)", x -> x.feed(-1, -1, -1, -1, -1));
    }

    private void ends() {
        int length = name.equals("new") ? 0 : name.equals("used") ? 18 : 600;
        int[] wrong = {-1, -600, length + 1, 601, LOW, HIGH};
        for (int n : wrong) {
            refuses("end(" + n + ")", x -> x.end(n));
        }
    }

    private void writes() {
        int[][] wrong = {{-1, 0}, {8, 0}, {LOW, 0}, {HIGH, 0}, {0, -1}, {0, 3}, {0, LOW}, {0, HIGH}, {8, 3}, {7, 3}};
        for (int[] w : wrong) {
            none("write(" + w[0] + ", " + w[1] + ")", x -> x.write(w[0], w[1]));
        }
    }

    /** The TAPE is empty then: so it is compared with a state whose TAPE was cut to nothing. */
    private RefusedTest emptied() {
        return new RefusedTest(name, state.copy().cut(0));
    }

    private void faultyRules() {
        String[] texts = {"?", "say", "say 40", "say 1 when 0=0;say 0 skill 5 when 0=0;", "say 1 when 0=0;".repeat(13),
            "say 1 when (((((((((0=0)))))))));", "say 1 when 0=0;say 11 when 0=0;say 21 when 0=0;;"};
        RefusedTest empty = emptied();
        empty.before.remove(Look.FAULT);
        for (String text : texts) {
            Look.same(name + ": rules of " + text, empty.before, empty.state.copy().rules(text));
        }
    }

    private void phrases() {
        int[][] wrong = {{-1, 0, 1}, {40, 0, 1}, {LOW, 0, 1}, {HIGH, 0, 1}, {0, -1, 1}, {0, 3, 1}, {5, 3, 1}, {6, -1, 1},
            {39, 3, 1}, {0, LOW, 1}, {0, HIGH, 1}, {0, 0, 21}, {39, 2, 21}, {6, 0, 600}, {7, 1, 21}, {40, 3, 21}, {40, 0, 0}};
        RefusedTest empty = emptied();
        for (int[] w : wrong) {
            String what = name + ": phrase(" + w[0] + ", " + w[1] + ") of " + w[2];
            Script told = empty.state.copy().type("x".repeat(w[2]));
            Desk.due(what, told.play().phrase(w[0], w[1]), false);
            Look.same(what, empty.before, told.then(x -> x.phrase(w[0], w[1])));
        }
    }

    private void names() {
        int[][] wrong = {{-1, 0, 1}, {5, 0, 1}, {LOW, 0, 1}, {HIGH, 0, 1}, {0, -1, 1}, {0, 3, 1}, {3, 3, 1}, {1, -1, 1},
            {4, 3, 1}, {0, LOW, 1}, {0, HIGH, 1}, {0, 0, 11}, {4, 2, 11}, {0, 0, 600}, {3, 1, 11}, {5, 3, 11}, {5, 0, 0}};
        RefusedTest empty = emptied();
        for (int[] w : wrong) {
            String what = name + ": name(" + w[0] + ", " + w[1] + ") of " + w[2];
            Script told = empty.state.copy().type("x".repeat(w[2]));
            Desk.due(what, told.play().name(w[0], w[1]), false);
            Look.same(what, empty.before, told.then(x -> x.name(w[0], w[1])));
        }
    }

    private void reads(String call, ToIntFunction<MarkPages> reader) {
        Look.same(name + ": " + call, before, state.copy().then(reader::applyAsInt));
    }

    /** No promise lets a call that only answers change anything, whether it is refused or not. */
    private void readersOfPapers() {
        int[] numbers = {-1, 0, 7, 8, LOW, HIGH};
        for (int n : numbers) {
            reads("of(" + n + ", 0)", x -> x.of(n, 0));
            reads("of(0, " + n + ")", x -> x.of(0, n));
            reads("got(" + n + ", 0, 1)", x -> x.got(n, 0, 1));
            reads("got(0, " + n + ", 4)", x -> x.got(0, n, 4));
            reads("got(0, 0, " + n + ")", x -> x.got(0, 0, n));
            reads("fault(" + n + ")", x -> x.fault(n));
            reads("out(" + n + ")", x -> x.out(n));
        }
    }

    private void readersOfPages() {
        int[] numbers = {-1, 0, 7, 8, LOW, HIGH};
        for (int n : numbers) {
            reads("page(" + n + ")", x -> x.page(n));
            reads("line(" + n + ", 0, 3)", x -> x.line(n, 0, 3));
            reads("line(0, " + n + ", 3)", x -> x.line(0, n, 3));
            reads("line(0, 0, " + n + ")", x -> x.line(0, 0, n));
            reads("alike(" + n + ", 0)", x -> x.alike(n, 0));
            reads("alike(0, " + n + ")", x -> x.alike(0, n));
            reads("sheet(" + n + ", 0)", x -> x.sheet(n, 0));
            reads("sheet(0, " + n + ")", x -> x.sheet(0, n));
            reads("group(" + n + ")", x -> x.group(n));
        }
    }
}
