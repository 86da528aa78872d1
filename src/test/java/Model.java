import java.util.ArrayList;
import java.util.Collections;
import java.util.HashMap;
import java.util.List;
import java.util.Map;
import java.util.TreeSet;
import java.util.function.ToIntFunction;

/** The document read a second time, by other means: lists, closures, and nothing kept between calls. */
final class Model {
    private static final List<String> MEASURES = List.of("marked", "share", "missed", "last", "class");

    /** What an E or T is for the five measures; a truth is 1 or 0. */
    private interface Term extends ToIntFunction<int[]> { }

    private record Rule(int saying, int skill, Term so) { }

    private record Line(int saying, int skill) { }

    private record Token(String text, int place) { }

    private static final class Fault extends RuntimeException {
        private static final long serialVersionUID = 1L;
        final int kind;
        final int place;

        Fault(int kind, int place) {
            this.kind = kind;
            this.place = place;
        }
    }

    private final List<int[]> questions = new ArrayList<>();
    private final Map<Integer, Map<Integer, Integer>> points = new HashMap<>();
    private String tape = "";
    private List<Rule> rules = new ArrayList<>();
    private int faultKind = 0;
    private int faultPlace = -1;
    private final Map<List<Integer>, String> phrases = new HashMap<>();
    private final Map<List<Integer>, String> names = new HashMap<>();
    private String out = "";

    private static boolean within(int n, int low, int high) {
        return n >= low && n <= high;
    }

    private Map<Integer, Integer> paper(int p) {
        return points.computeIfAbsent(p, k -> new HashMap<>());
    }

    int question(int most, int skills) {
        if (!within(most, 1, 20) || !within(skills, 1, 31) || questions.size() == 10) {
            return -1;
        }
        questions.add(new int[] {most, skills});
        return questions.size() - 1;
    }

    boolean mark(int p, int q, int n) {
        if (!within(p, 0, 7) || !within(q, 0, questions.size() - 1) || !within(n, -1, questions.get(q)[0])) {
            return false;
        }
        if (n < 0) {
            paper(p).remove(q);
        } else {
            paper(p).put(q, n);
        }
        return true;
    }

    int of(int q, int what) {
        if (!within(q, 0, questions.size() - 1)) {
            return -1;
        }
        if (within(what, 0, 1)) {
            return questions.get(q)[what];
        }
        return within(what, 10, 17) ? paper(what - 10).getOrDefault(q, -1) : -1;
    }

    private List<Integer> markedOf(Map<Integer, Integer> paper, int s) {
        List<Integer> all = new ArrayList<>();
        for (int q : new TreeSet<>(paper.keySet())) {
            if ((questions.get(q)[1] & 1 << s) != 0) {
                all.add(q);
            }
        }
        return all;
    }

    private int share(Map<Integer, Integer> paper, List<Integer> of) {
        int have = of.stream().mapToInt(paper::get).sum();
        int most = of.stream().mapToInt(q -> questions.get(q)[0]).sum();
        return most == 0 ? 0 : have * 100 / most;
    }

    private int median(int s) {
        List<Integer> shares = new ArrayList<>();
        for (int p = 0; p < 8; p++) {
            List<Integer> marked = markedOf(paper(p), s);
            if (!marked.isEmpty()) {
                shares.add(share(paper(p), marked));
            }
        }
        Collections.sort(shares);
        return shares.isEmpty() ? 0 : shares.get((shares.size() - 1) / 2);
    }

    private int[] measures(Map<Integer, Integer> paper, int s) {
        List<Integer> marked = markedOf(paper, s);
        int missed = (int) marked.stream().filter(q -> paper.get(q) == 0).count();
        int n = marked.size();
        int last = n == 0 ? 0 : share(paper, marked.subList(n - 1, n));
        return new int[] {n, share(paper, marked), missed, last, median(s)};
    }

    int got(int p, int s, int what) {
        boolean can = within(p, 0, 7) && within(s, 0, 4) && within(what, 0, 4);
        return can ? measures(paper(p), s)[what] : -1;
    }

    int feed(int... numbers) {
        if (tape.length() + 20 > 600) {
            return -1;
        }
        for (int number : numbers) {
            tape += "" + (char) (number >>> 24) + (char) (number >>> 16 & 255)
                + (char) (number >>> 8 & 255) + (char) (number & 255);
        }
        return tape.length();
    }

    boolean end(int n) {
        if (!within(n, 0, tape.length())) {
            return false;
        }
        tape = tape.substring(0, n);
        return true;
    }

    private String takeTape() {
        String taken = tape;
        tape = "";
        return taken;
    }

    int rules() {
        try {
            rules = new Reader(takeTape()).text();
            faultKind = 0;
            faultPlace = -1;
            return rules.size();
        } catch (Fault f) {
            faultKind = f.kind;
            faultPlace = f.place;
            return -1;
        }
    }

    int fault(int what) {
        return what == 0 ? faultKind : what == 1 ? faultPlace : -1;
    }

    private static final class Reader {
        private final List<Token> tokens = new ArrayList<>();
        private int at = 0;
        private int open = 0;

        Reader(String text) {
            var found = java.util.regex.Pattern.compile("[a-zA-Z]+|[0-9]+|[^ \n]").matcher(text);
            while (found.find()) {
                tokens.add(new Token(found.group(), found.start()));
            }
            tokens.add(new Token("", text.length()));
        }

        private String now() {
            return tokens.get(at).text;
        }

        private Fault refused(int kind) {
            return new Fault(kind, tokens.get(at).place);
        }

        private String take(String... allowed) {
            String text = now();
            if (!List.of(allowed).contains(text)) {
                throw refused(1);
            }
            at++;
            return text;
        }

        private int number(int highest) {
            if (!now().matches("[0-9]{1,3}")) {
                throw refused(1);
            }
            int n = Integer.parseInt(now());
            if (n > highest) {
                throw refused(2);
            }
            at++;
            return n;
        }

        List<Rule> text() {
            List<Rule> all = new ArrayList<>();
            while (!now().isEmpty()) {
                if (now().equals("say") && all.size() == 12) {
                    throw refused(3);
                }
                take("say");
                int saying = number(39);
                int skill = -1;
                if (now().equals("skill")) {
                    at++;
                    skill = number(4);
                }
                take("when");
                all.add(new Rule(saying, skill, either()));
                take(";");
            }
            return all;
        }

        private Term either() {
            Term all = both();
            while (now().equals("or")) {
                at++;
                Term left = all;
                Term right = both();
                all = m -> left.applyAsInt(m) + right.applyAsInt(m) > 0 ? 1 : 0;
            }
            return all;
        }

        private Term both() {
            Term all = condition();
            while (now().equals("and")) {
                at++;
                Term left = all;
                Term right = condition();
                all = m -> left.applyAsInt(m) * right.applyAsInt(m);
            }
            return all;
        }

        private Term condition() {
            if (!now().equals("not") && !now().equals("(")) {
                Term left = sum();
                String sign = take("<", "=", ">");
                Term right = sum();
                int want = "<=>".indexOf(sign) - 1;
                return m -> Integer.compare(left.applyAsInt(m), right.applyAsInt(m)) == want ? 1 : 0;
            }
            if (open == 8) {
                throw refused(3);
            }
            open++;
            Term inner;
            if (take("not", "(").equals("not")) {
                Term denied = condition();
                inner = m -> 1 - denied.applyAsInt(m);
            } else {
                inner = either();
                take(")");
            }
            open--;
            return inner;
        }

        private Term sum() {
            Term all = value();
            while (now().equals("+") || now().equals("-")) {
                int factor = now().equals("+") ? 1 : -1;
                at++;
                Term left = all;
                Term right = value();
                all = m -> left.applyAsInt(m) + factor * right.applyAsInt(m);
            }
            return all;
        }

        private Term value() {
            int measure = MEASURES.indexOf(now());
            if (measure >= 0) {
                at++;
                return m -> m[measure];
            }
            int n = number(999);
            return m -> n;
        }
    }

    boolean phrase(int saying, int tongue) {
        return told(phrases, saying, 39, tongue, 20);
    }

    boolean name(int skill, int tongue) {
        return told(names, skill, 4, tongue, 10);
    }

    private boolean told(Map<List<Integer>, String> texts, int n, int highest, int tongue, int room) {
        String text = takeTape();
        if (!within(n, 0, highest) || !within(tongue, 0, 2) || text.length() > room) {
            return false;
        }
        texts.put(List.of(n, tongue), text);
        return true;
    }

    /** The LINES with, at the same places in the other list, their RULES' numbers. */
    private List<Line> lines(int p, List<Integer> by) {
        List<Line> all = new ArrayList<>();
        for (int r = 0; r < rules.size(); r++) {
            Rule rule = rules.get(r);
            for (int s = 0; s < 5; s++) {
                int skill = s;
                int[] m = measures(paper(p), s);
                boolean taken = all.stream().anyMatch(l -> l.skill == skill && l.saying / 10 == rule.saying / 10);
                boolean meant = rule.skill < 0 || rule.skill == s;
                if (meant && m[0] > 0 && rule.so.applyAsInt(m) == 1 && !taken && all.size() < 12) {
                    all.add(new Line(rule.saying, s));
                    by.add(r);
                }
            }
        }
        return all;
    }

    private List<Line> lines(int p) {
        return lines(p, new ArrayList<>());
    }

    int page(int p) {
        return within(p, 0, 7) ? lines(p).size() : -1;
    }

    int line(int p, int i, int what) {
        if (!within(p, 0, 7) || !within(what, 0, 3)) {
            return -1;
        }
        List<Integer> by = new ArrayList<>();
        List<Line> all = lines(p, by);
        if (!within(i, 0, all.size() - 1)) {
            return -1;
        }
        Line line = all.get(i);
        return what == 0 ? line.saying : what == 1 ? line.skill : what == 2 ? by.get(i)
            : borne(p, line.skill, rules.get(by.get(i)));
    }

    private int borne(int p, int s, Rule rule) {
        int best = -1;
        int median = median(s);
        for (int set = 1; set < 1024; set++) {
            Map<Integer, Integer> part = new HashMap<>();
            boolean fits = true;
            for (int q = 0; q < 10; q++) {
                if ((set & 1 << q) != 0) {
                    fits = fits && markedOf(paper(p), s).contains(q);
                    part.put(q, paper(p).getOrDefault(q, 0));
                }
            }
            if (!fits) {
                continue;
            }
            int[] m = measures(part, s);
            m[4] = median;
            boolean fewer = best < 0 || Integer.bitCount(set) < Integer.bitCount(best);
            if (fewer && rule.so.applyAsInt(m) == 1) {
                best = set;
            }
        }
        return best;
    }

    int write(int p, int tongue) {
        if (!within(p, 0, 7) || !within(tongue, 0, 2)) {
            return -1;
        }
        StringBuilder text = new StringBuilder();
        for (Line line : lines(p)) {
            String phrase = phrases.getOrDefault(List.of(line.saying, tongue), "");
            if (phrase.isEmpty()) {
                continue;
            }
            String name = names.getOrDefault(List.of(line.skill, tongue), "");
            int share = measures(paper(p), line.skill)[1];
            for (char c : phrase.toCharArray()) {
                text.append(c == '%' ? name : c == '#' ? "" + share : "" + c);
            }
            text.append('\n');
        }
        out = text.toString();
        return out.length();
    }

    int out(int i) {
        return within(i, 0, out.length() - 1) ? out.charAt(i) : -1;
    }

    int alike(int p, int q) {
        if (!within(p, 0, 7) || !within(q, 0, 7)) {
            return -1;
        }
        return lines(p).equals(lines(q)) ? 1 : 0;
    }

    int sheet(int s, int sort) {
        if (!within(s, 0, 4) || !within(sort, 0, 3)) {
            return -1;
        }
        int n = 0;
        for (int p = 0; p < 8; p++) {
            n += lines(p).stream().anyMatch(l -> l.skill == s && l.saying / 10 == sort) ? 1 : 0;
        }
        return n;
    }

    int group(int p) {
        List<List<Line>> groups = new ArrayList<>();
        for (int i = 0; i < 8; i++) {
            if (!paper(i).isEmpty() && !groups.contains(lines(i))) {
                groups.add(lines(i));
            }
        }
        if (p == -1) {
            return groups.size();
        }
        return within(p, 0, 7) && !paper(p).isEmpty() ? groups.indexOf(lines(p)) : -1;
    }
}
