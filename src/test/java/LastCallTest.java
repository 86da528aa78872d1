import java.util.LinkedHashMap;
import java.util.Map;
import java.util.function.ToIntFunction;

/** "An object is used for at most 512 calls": the 512th is still answered as the document says. */
public final class LastCallTest {
    private static final int CALLS = 512;

    public static void main(String[] args) {
        Script[] states = {States.fresh(), States.used(), States.full()};
        for (Script state : states) {
            for (Map.Entry<String, ToIntFunction<MarkPages>> last : lastCalls().entrySet()) {
                int want = last.getValue().applyAsInt(state.play());
                for (Script busy : new Script[] {reading(state), tellingAgain(state)}) {
                    Desk.due("calls before the last", busy.size(), CALLS - 1);
                    Desk.due("the 512th call, " + last.getKey(), last.getValue().applyAsInt(busy.play()), want);
                }
            }
        }
        manyTexts();
        manyMarks();
        Desk.finish();
    }

    private static Map<String, ToIntFunction<MarkPages>> lastCalls() {
        Map<String, ToIntFunction<MarkPages>> calls = new LinkedHashMap<>();
        calls.put("question", x -> x.question(20, 31));
        calls.put("mark", x -> x.mark(0, 0, 3) ? 1 : 0);
        calls.put("of", x -> x.of(0, 10));
        calls.put("got", x -> x.got(0, 0, 1));
        calls.put("feed", x -> x.feed(1, 2, 3, 4, 5));
        calls.put("end", x -> x.end(18) ? 1 : 0);
        calls.put("rules", x -> x.rules());
        calls.put("fault", x -> x.fault(1));
        calls.put("phrase", x -> x.phrase(39, 2) ? 1 : 0);
        calls.put("name", x -> x.name(4, 2) ? 1 : 0);
        calls.put("page", x -> x.page(0));
        calls.put("line", x -> x.line(0, 1, 3));
        calls.put("write", x -> x.write(0, 0));
        calls.put("out", x -> x.out(1));
        calls.put("alike", x -> x.alike(0, 3));
        calls.put("sheet", x -> x.sheet(0, 1));
        calls.put("group", x -> x.group(-1));
        return calls;
    }

    private static Script reading(Script state) {
        Script all = state.copy();
        while (all.size() < CALLS - 1) {
            int n = all.size() % 8;
            all.then(n % 2 == 0 ? x -> x.line(n, 0, 3) : x -> x.group(n));
        }
        return all;
    }

    /** Told again, the points are those that they were. */
    private static Script tellingAgain(Script state) {
        int points = state.play().of(0, 10);
        Script all = state.copy();
        while (all.size() < CALLS - 1) {
            all.then(x -> x.mark(0, 0, points));
        }
        return all;
    }

    /** As many texts as an object's calls can hold, RULES and PHRASES by turns. */
    private static void manyTexts() {
        Script script = new Script();
        script.then(x -> x.question(10, 31)).then(x -> x.mark(0, 0, 7));
        int n = 0;
        while (script.size() <= CALLS - 8) {
            script.rules("say " + n % 40 + " when 0=0;").phrase(n % 40, 1, "s" + n % 10);
            n++;
        }
        int saying = (n - 1) % 40;
        MarkPages x = script.play();
        Desk.due("13: the last of many RULES", x.line(0, 4, 0), saying);
        Desk.due("14: the last of many PHRASES", script.play().write(0, 1), 15);
    }

    private static void manyMarks() {
        MarkPages x = new MarkPages();
        x.question(20, 1);
        for (int i = 0; i < CALLS - 2; i++) {
            x.mark(i % 8, 0, i % 21);
        }
        Desk.due("4: the last of many marks", x.of(0, 10 + (CALLS - 3) % 8), (CALLS - 3) % 21);
    }
}
