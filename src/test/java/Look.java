import java.util.LinkedHashMap;
import java.util.Map;
import java.util.function.Function;

/**
 * All that can be seen of a MarkPages. It is looked at in parts, each on an object of its own, as the
 * whole would take more than the 512 calls of one object, and some parts change what they look at.
 */
final class Look {
    static final String FAULT = "the latest FAULT";

    private static final Map<String, Function<MarkPages, String>> PARTS = new LinkedHashMap<>();

    static {
        PARTS.put("QUESTIONS and points", Look::papers);
        PARTS.put("the next QUESTION", Look::nextQuestion);
        PARTS.put("what was got", Look::measures);
        PARTS.put("PAGES of 0 .. 3", x -> pages(x, 0));
        PARTS.put("PAGES of 4 .. 7", x -> pages(x, 4));
        PARTS.put("the class", Look::sheets);
        PARTS.put("OUT", Look::out);
        PARTS.put("the TAPE's length", Look::tapeLength);
        PARTS.put("the TAPE's first bytes", Look::tapeBytes);
        PARTS.put("the TAPE as RULES", Look::tapeAsRules);
        PARTS.put("PHRASES", Look::phrases);
        PARTS.put("NAMES", Look::names);
        PARTS.put(FAULT, x -> x.fault(0) + "@" + x.fault(1));
    }

    private Look() { }

    /** What the Script's calls lead to, part by part. */
    static Map<String, String> at(Script script) {
        Map<String, String> seen = new LinkedHashMap<>();
        for (Map.Entry<String, Function<MarkPages, String>> part : PARTS.entrySet()) {
            seen.put(part.getKey(), part.getValue().apply(script.play()));
        }
        return seen;
    }

    static void same(String what, Map<String, String> want, Script script) {
        Map<String, String> got = at(script);
        for (Map.Entry<String, String> part : want.entrySet()) {
            Desk.due(what + ", then " + part.getKey(), got.get(part.getKey()), part.getValue());
        }
    }

    private static String papers(MarkPages x) {
        StringBuilder all = new StringBuilder();
        for (int q = 0; q <= 10; q++) {
            all.append(x.of(q, 0)).append(' ').append(x.of(q, 1));
            for (int p = 0; p < 8; p++) {
                all.append(' ').append(x.of(q, 10 + p));
            }
            all.append('\n');
        }
        return all.toString();
    }

    private static String nextQuestion(MarkPages x) {
        int q = x.question(13, 21);
        return q + " " + x.of(9, 0) + " " + x.of(9, 1) + " " + x.mark(3, q, 13) + " " + papers(x);
    }

    private static String measures(MarkPages x) {
        StringBuilder all = new StringBuilder();
        for (int p = 0; p < 8; p++) {
            for (int s = 0; s < 5; s++) {
                for (int what = 0; what < 5; what++) {
                    all.append(x.got(p, s, what)).append(' ');
                }
            }
        }
        return all.toString();
    }

    private static String pages(MarkPages x, int from) {
        Desk desk = new Desk(x);
        StringBuilder all = new StringBuilder();
        for (int p = from; p < from + 4; p++) {
            all.append(desk.lines(p)).append('\n');
        }
        return all.toString();
    }

    private static String sheets(MarkPages x) {
        StringBuilder all = new StringBuilder();
        for (int p = 0; p < 8; p++) {
            for (int q = 0; q < 8; q++) {
                all.append(x.alike(p, q));
            }
        }
        for (int s = 0; s < 5; s++) {
            for (int sort = 0; sort < 4; sort++) {
                all.append(' ').append(x.sheet(s, sort));
            }
        }
        for (int p = -1; p < 8; p++) {
            all.append(' ').append(x.group(p));
        }
        return all.toString();
    }

    private static String out(MarkPages x) {
        return new Desk(x).written();
    }

    private static String tapeLength(MarkPages x) {
        int n = x.feed(0, 0, 0, 0, 0);
        if (n != MarkPages.NONE) {
            return "" + (n - 20);
        }
        n = 600;
        while (n > 580 && !x.end(n)) {
            n--;
        }
        return "" + n;
    }

    /** Seen as the PHRASE of all SAYINGS on the PAGE of PUPIL 7, which is to have LINES. */
    private static String tapeBytes(MarkPages x) {
        x.end(20);
        return x.phrase(0, 2) + " " + new Desk(x).write(7, 2);
    }

    private static String tapeAsRules(MarkPages x) {
        return x.rules() + " " + x.fault(0) + "@" + x.fault(1) + " " + new Desk(x).lines(0);
    }

    /** Four SAYINGS at a time, one of each SORT, for the PUPIL 7. */
    private static String phrases(MarkPages x) {
        Desk desk = new Desk(x);
        StringBuilder all = new StringBuilder();
        x.end(0);
        for (int n = 0; n < 10; n++) {
            desk.rules("say _ when 0=0;say 1_ when 0=0;say 2_ when 0=0;say 3_ when 0=0;".replace("_", "" + n));
            for (int tongue = 0; tongue < 3; tongue++) {
                all.append(n).append(": ").append(desk.write(7, tongue));
            }
        }
        return all.toString();
    }

    /** By a PHRASE of % alone, for PUPIL 0. */
    private static String names(MarkPages x) {
        Desk desk = new Desk(x);
        StringBuilder all = new StringBuilder();
        x.end(0);
        desk.rules("say 0 when 0=0;");
        for (int tongue = 0; tongue < 3; tongue++) {
            desk.phrase(0, tongue, "%");
            all.append(tongue).append(": ").append(desk.write(0, tongue));
        }
        return all.toString();
    }
}
