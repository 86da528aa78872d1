import java.nio.charset.StandardCharsets;
import java.util.Random;

/** All promises: runs of calls, the same each time, on MarkPages and on the Model beside it. */
public final class ModelTest {
    private static final int RUNS = 400;
    private static final int CALLS = 512;
    private static final int[] EDGES = {-2, -1, 20, 31, 32, 40, 600, Integer.MIN_VALUE, Integer.MAX_VALUE};
    private static final String[] SCRAPS = {"say", "skill", "when", "or", "and", "not", "marked", "share",
        "missed", "last", "class", "(", ")", "<", "=", ">", "+", "-", ";", "0", "7", "40", "999", "1000", "?",
        "x", "\n", "\t", "\u00ff", "Say"};
    private static final String[] MEASURES = {"marked", "share", "missed", "last", "class"};

    private final int run;
    private final Random random;
    private final MarkPages x = new MarkPages();
    private final Model m = new Model();
    private int calls = 0;

    private ModelTest(int run) {
        this.run = run;
        random = new Random(run);
    }

    public static void main(String[] args) {
        for (int run = 0; run < RUNS; run++) {
            new ModelTest(run).play();
        }
        Desk.finish();
    }

    private void play() {
        int questions = random.nextInt(11);
        for (int q = 0; q < questions; q++) {
            question(1 + random.nextInt(20), 1 + random.nextInt(31));
        }
        type(rulesText());
        rules();
        int marks = random.nextInt(60);
        for (int i = 0; i < marks; i++) {
            mark(upTo(8), upTo(10), random.nextInt(10) == 0 ? -1 : random.nextInt(random.nextBoolean() ? 21 : 4));
        }
        while (calls < CALLS - 40) {
            step();
        }
    }

    private void step() {
        switch (random.nextInt(20)) {
            case 0 -> question(upTo(21), upTo(32));
            case 1, 2, 3, 4 -> mark(upTo(8), upTo(10), random.nextInt(10) == 0 ? -1 : upTo(21));
            case 5, 6 -> {
                int q = upTo(10);
                int what = random.nextInt(3) == 0 ? upTo(2) : upTo(18);
                due("of " + q + " " + what, x.of(q, what), m.of(q, what));
            }
            case 7, 8 -> {
                int p = upTo(8);
                int s = upTo(5);
                int what = upTo(5);
                due("got " + p + " " + s + " " + what, x.got(p, s, what), m.got(p, s, what));
            }
            case 9 -> newRules();
            case 10 -> told();
            case 11, 12, 13, 14 -> lines(upTo(8));
            case 15 -> write(upTo(8), upTo(3));
            case 16 -> {
                int p = upTo(8);
                int q = upTo(8);
                due("alike " + p + " " + q, x.alike(p, q), m.alike(p, q));
            }
            case 17 -> {
                int s = upTo(5);
                int sort = upTo(4);
                due("sheet " + s + " " + sort, x.sheet(s, sort), m.sheet(s, sort));
            }
            case 18 -> {
                int p = random.nextBoolean() ? -1 : upTo(8);
                due("group " + p, x.group(p), m.group(p));
            }
            default -> {
                int n = random.nextInt(41);
                due("end " + n, x.end(n) ? 1 : 0, m.end(n) ? 1 : 0);
            }
        }
    }

    /** Mostly 0 .. n - 1, at times an edge or something beside it. */
    private int upTo(int n) {
        return random.nextInt(25) == 0 ? EDGES[random.nextInt(EDGES.length)]
            : random.nextInt(25) == 0 ? n : random.nextInt(n);
    }

    private void due(String what, int got, int want) {
        calls++;
        Desk.due("run " + run + ", call " + calls + ": " + what, got, want);
    }

    private void question(int most, int skills) {
        due("question", x.question(most, skills), m.question(most, skills));
    }

    private void mark(int p, int q, int n) {
        due("mark", x.mark(p, q, n) ? 1 : 0, m.mark(p, q, n) ? 1 : 0);
    }

    private void rules() {
        due("rules", x.rules(), m.rules());
        int what = upTo(2);
        due("fault", x.fault(what), m.fault(what));
        due("fault's kind", x.fault(0), m.fault(0));
        due("fault's place", x.fault(1), m.fault(1));
    }

    private void newRules() {
        StringBuilder text = new StringBuilder(rulesText());
        if (random.nextBoolean()) {
            int at = random.nextInt(text.length() + 1);
            int cut = Math.min(text.length(), at + random.nextInt(5));
            text.replace(at, cut, SCRAPS[random.nextInt(SCRAPS.length)]);
        }
        type(text.toString());
        rules();
    }

    private void told() {
        int length = random.nextInt(3) == 0 ? random.nextInt(24) : random.nextInt(random.nextInt(4) == 0 ? 2 : 12);
        StringBuilder text = new StringBuilder();
        for (int i = 0; i < length; i++) {
            int kind = random.nextInt(4);
            text.append(kind == 0 ? '%' : kind == 1 ? '#' : (char) random.nextInt(256));
        }
        type(text.toString());
        int tongue = upTo(3);
        if (random.nextBoolean()) {
            int s = upTo(5);
            due("name", x.name(s, tongue) ? 1 : 0, m.name(s, tongue) ? 1 : 0);
        } else {
            int p = random.nextInt(8);
            int saying = sayingFor(p);
            due("phrase", x.phrase(saying, tongue) ? 1 : 0, m.phrase(saying, tongue) ? 1 : 0);
            write(p, tongue);
        }
    }

    /** Mostly one that stands on the PUPIL's PAGE: of forty few do, and the others are not written. */
    private int sayingFor(int p) {
        int lines = m.page(p);
        return lines == 0 || random.nextInt(3) == 0 ? upTo(40) : m.line(p, random.nextInt(lines), 0);
    }

    private void lines(int p) {
        due("page " + p, x.page(p), m.page(p));
        for (int n = 0; n < 4; n++) {
            int i = random.nextInt(13);
            int what = random.nextBoolean() ? 3 : upTo(4);
            due("line " + p + " " + i + " " + what, x.line(p, i, what), m.line(p, i, what));
        }
    }

    private void write(int p, int tongue) {
        int length = m.write(p, tongue);
        due("write " + p + " " + tongue, x.write(p, tongue), length);
        for (int n = 0; n < 6; n++) {
            int i = random.nextInt(Math.max(length, 0) + 2) - (random.nextInt(10) == 0 ? 1 : 0);
            due("out " + i, x.out(i), m.out(i));
        }
    }

    private void type(String text) {
        byte[] bytes = text.getBytes(StandardCharsets.ISO_8859_1);
        int length = 0;
        for (int i = 0; i < bytes.length; i += 20) {
            int[] n = new int[5];
            for (int k = 0; k < 20; k++) {
                n[k / 4] = n[k / 4] << 8 | (i + k < bytes.length ? bytes[i + k] & 255 : 32);
            }
            length = m.feed(n);
            due("feed", x.feed(n[0], n[1], n[2], n[3], n[4]), length);
        }
        if (bytes.length > 0) {
            int n = length - (20 - bytes.length % 20) % 20;
            due("end", x.end(n) ? 1 : 0, m.end(n) ? 1 : 0);
        }
    }

    private String rulesText() {
        StringBuilder text = new StringBuilder();
        int n = random.nextInt(4) == 0 ? random.nextInt(14) : random.nextInt(7);
        for (int i = 0; i < n; i++) {
            text.append("say ").append(random.nextInt(random.nextInt(20) == 0 ? 45 : 40));
            if (random.nextInt(3) == 0) {
                text.append(" skill ").append(random.nextInt(random.nextInt(20) == 0 ? 7 : 5));
            }
            text.append(" when ").append(either(random.nextInt(12) == 0 ? 7 : 1)).append(";");
            text.append(random.nextInt(5) == 0 ? "\n" : "");
        }
        return text.length() > 600 ? text.substring(0, random.nextInt(600)) : text.toString();
    }

    private String either(int depth) {
        String text = both(depth);
        return random.nextInt(4) == 0 ? text + " or " + both(depth) : text;
    }

    private String both(int depth) {
        String text = condition(depth);
        return random.nextInt(3) == 0 ? text + " and " + condition(depth) : text;
    }

    private String condition(int depth) {
        int kind = random.nextInt(depth > 1 ? 3 : 6);
        if (depth > 0 && kind == 0) {
            return "not " + condition(depth - 1);
        }
        if (depth > 0 && kind == 1) {
            return "(" + (depth > 1 ? condition(depth - 1) : either(0)) + ")";
        }
        if (depth > 1) {
            return "not(" + condition(depth - 1) + ")";
        }
        return sum() + "<=>".charAt(random.nextInt(3)) + sum();
    }

    private String sum() {
        String text = value();
        return random.nextInt(4) == 0 ? text + "+-".charAt(random.nextInt(2)) + value() : text;
    }

    private String value() {
        int kind = random.nextInt(8);
        return kind < 5 ? MEASURES[kind] : "" + (kind < 7 ? random.nextInt(4) : random.nextInt(101));
    }
}
