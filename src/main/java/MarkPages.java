import java.util.Arrays;

/**
 * A maker of pages from marked papers. The promises it keeps are told, by number, in the project's
 * document. Every row is made with the object and used again, so that no call makes anything.
 */
public final class MarkPages {
    public static final int NONE = -1;

    private static final int QUESTIONS = 10;
    private static final int HIGHEST_MOST = 20;
    private static final int SKILLS = 5;
    private static final int PUPILS = 8;
    private static final int SAYINGS = 40;
    private static final int SORTS = 4;
    private static final int SAYINGS_OF_A_SORT = 10;
    private static final int TONGUES = 3;
    private static final int RULES = 12;
    private static final int LINES = 12;
    private static final int OPEN_AT_ONCE = 8;
    private static final int PUPILS_FROM = 10;

    private static final int TAPE_ROOM = 600;
    private static final int FEED_SIZE = 20;
    private static final int PHRASE_ROOM = 20;
    private static final int NAME_ROOM = 10;
    /** A PHRASE grows most when it is all % and the NAME is as long as can be. */
    private static final int OUT_ROOM = LINES * (PHRASE_ROOM * NAME_ROOM + 1);
    /** Eight ( leave two waiting values each, the innermost E five more. */
    private static final int PILE_ROOM = 32;

    private static final int MEASURES = 5;
    private static final int M_MARKED = 0;
    private static final int M_SHARE = 1;
    private static final int M_MISSED = 2;
    private static final int M_LAST = 3;
    private static final int M_CLASS = 4;

    private static final int NO_FAULT = 0;
    private static final int CANNOT_STAND = 1;
    private static final int TOO_HIGH = 2;
    private static final int TOO_MANY = 3;

    /** A token up to here is a NUMBER and is its own value. */
    private static final int HIGHEST_NUMBER = 999;
    private static final int LONGEST_NUMBER = 3;
    private static final int SAY = 1000;
    private static final int SKILL = 1001;
    private static final int WHEN = 1002;
    private static final int OR = 1003;
    private static final int AND = 1004;
    private static final int NOT = 1005;
    private static final int MARKED = 1006;
    private static final int SHARE = 1007;
    private static final int MISSED = 1008;
    private static final int LAST = 1009;
    private static final int CLASS = 1010;
    private static final int END = 1011;
    private static final int NO_TOKEN = 1012;
    private static final int SIGN = 1100;
    private static final int SEMICOLON = SIGN + ';';
    private static final int OPENING = SIGN + '(';
    private static final int CLOSING = SIGN + ')';
    private static final int LESS = SIGN + '<';
    private static final int EQUAL = SIGN + '=';
    private static final int MORE = SIGN + '>';
    private static final int PLUS = SIGN + '+';
    private static final int MINUS = SIGN + '-';

    private static final int BLANK = 0;
    private static final int LETTER = 1;
    private static final int DIGIT = 2;
    private static final int OTHER = 3;

    private final Papers papers = new Papers();
    private final Tape tape = new Tape();
    private final RuleReader reader = new RuleReader();
    private final Judge judge = new Judge();
    private final Texts phrases = new Texts(SAYINGS * TONGUES, PHRASE_ROOM);
    private final Texts names = new Texts(SKILLS * TONGUES, NAME_ROOM);
    private final Page[] pages = new Page[PUPILS];
    private final int[][] measures = new int[SKILLS][MEASURES];
    private final int[] trial = new int[MEASURES];
    private final Out written = new Out();
    private RuleBook book = new RuleBook();

    public MarkPages() {
        for (int p = 0; p < PUPILS; p++) {
            pages[p] = new Page();
        }
    }

    public int question(int most, int skills) {
        boolean fits = most >= 1 && most <= HIGHEST_MOST && skills >= 1 && skills < 1 << SKILLS;
        return fits ? papers.addQuestion(most, skills) : NONE;
    }

    public boolean mark(int p, int q, int points) {
        if (!isPupil(p) || !papers.hasQuestion(q) || points < NONE || points > papers.mosts[q]) {
            return false;
        }
        papers.setPoints(p, q, points);
        return true;
    }

    public int of(int q, int what) {
        if (!papers.hasQuestion(q)) {
            return NONE;
        }
        if (what == 0) {
            return papers.mosts[q];
        }
        if (what == 1) {
            return papers.skillSets[q];
        }
        boolean toldPupil = what >= PUPILS_FROM && what < PUPILS_FROM + PUPILS;
        return toldPupil ? papers.pointsOf(what - PUPILS_FROM, q) : NONE;
    }

    public int got(int p, int s, int what) {
        if (!isPupil(p) || !isSkill(s) || what < 0 || what >= MEASURES) {
            return NONE;
        }
        papers.measure(p, s, papers.markedOf(p, s), trial);
        return trial[what];
    }

    public int feed(int a, int b, int c, int d, int e) {
        if (tape.count > TAPE_ROOM - FEED_SIZE) {
            return NONE;
        }
        tape.take(a);
        tape.take(b);
        tape.take(c);
        tape.take(d);
        tape.take(e);
        return tape.count;
    }

    public boolean end(int n) {
        if (n < 0 || n > tape.count) {
            return false;
        }
        tape.count = n;
        return true;
    }

    public int rules() {
        reader.begin(tape);
        tape.count = 0;
        boolean fine = true;
        for (int i = 0; i <= RULES && fine && reader.now != END; i++) {
            fine = reader.readRule();
        }
        if (!fine) {
            return NONE;
        }
        RuleBook older = book;
        book = reader.draft;
        reader.draft = older;
        return book.count;
    }

    public int fault(int what) {
        if (what == 0) {
            return reader.faultKind;
        }
        return what == 1 ? reader.faultPlace : NONE;
    }

    public boolean phrase(int saying, int tongue) {
        boolean such = saying >= 0 && saying < SAYINGS && isTongue(tongue);
        return keepTape(phrases, such ? rowOf(saying, tongue) : NONE);
    }

    public boolean name(int skill, int tongue) {
        boolean such = isSkill(skill) && isTongue(tongue);
        return keepTape(names, such ? rowOf(skill, tongue) : NONE);
    }

    public int page(int p) {
        return isPupil(p) ? freshPage(p).count : NONE;
    }

    public int line(int p, int i, int what) {
        if (!isPupil(p)) {
            return NONE;
        }
        Page made = freshPage(p);
        if (i < 0 || i >= made.count) {
            return NONE;
        }
        switch (what) {
            case 0:
                return made.sayings[i];
            case 1:
                return made.skills[i];
            case 2:
                return made.ruleNumbers[i];
            case 3:
                return bearersOf(p, made.skills[i], made.ruleNumbers[i]);
            default:
                return NONE;
        }
    }

    public int write(int p, int tongue) {
        if (!isPupil(p) || !isTongue(tongue)) {
            return NONE;
        }
        Page made = freshPage(p);
        written.count = 0;
        for (int i = 0; i < made.count; i++) {
            writeLine(made.sayings[i], made.skills[i], tongue);
        }
        return written.count;
    }

    public int out(int i) {
        return i >= 0 && i < written.count ? written.bytes[i] : NONE;
    }

    public int alike(int p, int q) {
        if (!isPupil(p) || !isPupil(q)) {
            return NONE;
        }
        return freshPage(p).sameLines(freshPage(q)) ? 1 : 0;
    }

    public int sheet(int s, int sort) {
        if (!isSkill(s) || sort < 0 || sort >= SORTS) {
            return NONE;
        }
        int having = 0;
        for (int p = 0; p < PUPILS; p++) {
            if (freshPage(p).hasSort(s, sort)) {
                having++;
            }
        }
        return having;
    }

    public int group(int p) {
        boolean all = p == NONE;
        if (!all && (!isPupil(p) || !papers.hasMark(p))) {
            return NONE;
        }
        for (int i = 0; i < PUPILS; i++) {
            freshPage(i);
        }
        return groupsBelow(all ? PUPILS : leastAlike(p));
    }

    private static boolean isPupil(int p) {
        return p >= 0 && p < PUPILS;
    }

    private static boolean isSkill(int s) {
        return s >= 0 && s < SKILLS;
    }

    private static boolean isTongue(int tongue) {
        return tongue >= 0 && tongue < TONGUES;
    }

    private static int rowOf(int number, int tongue) {
        return number * TONGUES + tongue;
    }

    /** The TAPE is empty afterwards even where the text is refused: "nothing else is done". */
    private boolean keepTape(Texts texts, int row) {
        boolean kept = texts.keep(row, tape);
        tape.count = 0;
        return kept;
    }

    /** Made anew at each call: any PUPIL's mark moves the class, and with it every PAGE. */
    private Page freshPage(int p) {
        Page made = pages[p];
        made.count = 0;
        for (int s = 0; s < SKILLS; s++) {
            papers.measure(p, s, papers.markedOf(p, s), measures[s]);
        }
        for (int r = 0; r < book.count; r++) {
            addLinesOf(r, made);
        }
        return made;
    }

    private void addLinesOf(int r, Page made) {
        int sort = book.sayings[r] / SAYINGS_OF_A_SORT;
        for (int s = 0; s < SKILLS; s++) {
            boolean open = book.isFor(r, s) && measures[s][M_MARKED] > 0 && !made.hasSort(s, sort);
            if (open && judge.isSo(book, r, measures[s])) {
                made.add(book.sayings[r], s, r);
            }
        }
    }

    /** Smaller sets come first, then lower numbers, so that the first that bears is the least. */
    private int bearersOf(int p, int s, int r) {
        int marked = papers.markedOf(p, s);
        int most = Integer.bitCount(marked);
        for (int size = 1; size <= most; size++) {
            for (int set = 1; set <= marked; set++) {
                boolean fits = (set & ~marked) == 0 && Integer.bitCount(set) == size;
                if (fits && bears(p, s, r, set)) {
                    return set;
                }
            }
        }
        return marked;
    }

    private boolean bears(int p, int s, int r, int set) {
        papers.measure(p, s, set, trial);
        return judge.isSo(book, r, trial);
    }

    /**
     * The measures are those of the PUPIL whose PAGE was made last. A PHRASE without bytes is none,
     * however it came to have none: its LINE is left out, the byte 10 too.
     */
    private void writeLine(int saying, int skill, int tongue) {
        int row = rowOf(saying, tongue);
        if (phrases.lengths[row] == 0) {
            return;
        }
        for (int i = 0; i < phrases.lengths[row]; i++) {
            int b = phrases.byteAt(row, i);
            if (b == '%') {
                writeName(rowOf(skill, tongue));
            } else if (b == '#') {
                written.putNumber(measures[skill][M_SHARE]);
            } else {
                written.put(b);
            }
        }
        written.put('\n');
    }

    private void writeName(int row) {
        for (int i = 0; i < names.lengths[row]; i++) {
            written.put(names.byteAt(row, i));
        }
    }

    /** The least PUPIL with a mark that is ALIKE; the PAGES have been made. */
    private int leastAlike(int p) {
        for (int i = 0; i < p; i++) {
            if (papers.hasMark(i) && pages[i].sameLines(pages[p])) {
                return i;
            }
        }
        return p;
    }

    private int groupsBelow(int bound) {
        int groups = 0;
        for (int i = 0; i < bound; i++) {
            if (papers.hasMark(i) && leastAlike(i) == i) {
                groups++;
            }
        }
        return groups;
    }

    /** The QUESTIONS, the points for them, and the class's MEDIANS, kept in step with the points. */
    private static final class Papers {
        final int[] mosts = new int[QUESTIONS];
        final int[] skillSets = new int[QUESTIONS];
        final int[] points = new int[PUPILS * QUESTIONS];
        final int[] medians = new int[SKILLS];
        final int[] rising = new int[PUPILS];
        int count;

        Papers() {
            Arrays.fill(points, NONE);
        }

        int addQuestion(int most, int skills) {
            if (count >= QUESTIONS) {
                return NONE;
            }
            mosts[count] = most;
            skillSets[count] = skills;
            count++;
            return count - 1;
        }

        boolean hasQuestion(int q) {
            return q >= 0 && q < count;
        }

        int pointsOf(int p, int q) {
            return points[p * QUESTIONS + q];
        }

        void setPoints(int p, int q, int told) {
            points[p * QUESTIONS + q] = told;
            for (int s = 0; s < SKILLS; s++) {
                medians[s] = medianOf(s);
            }
        }

        boolean hasMark(int p) {
            for (int q = 0; q < count; q++) {
                if (pointsOf(p, q) != NONE) {
                    return true;
                }
            }
            return false;
        }

        /** As a set: QUESTION q counts 2 to the q. */
        int markedOf(int p, int s) {
            int set = 0;
            for (int q = 0; q < count; q++) {
                if ((skillSets[q] >> s & 1) == 1 && pointsOf(p, q) != NONE) {
                    set |= 1 << q;
                }
            }
            return set;
        }

        /** By the QUESTIONS of the set alone, all of them marked; the class stays as it is. */
        void measure(int p, int s, int set, int[] into) {
            into[M_MARKED] = Integer.bitCount(set);
            into[M_SHARE] = shareBy(p, set);
            into[M_MISSED] = missedBy(p, set);
            into[M_LAST] = shareBy(p, lastOf(set));
            into[M_CLASS] = medians[s];
        }

        private int shareBy(int p, int set) {
            int reached = 0;
            int reachable = 0;
            for (int q = 0; q < count; q++) {
                if ((set >> q & 1) == 1) {
                    reached += pointsOf(p, q);
                    reachable += mosts[q];
                }
            }
            return reachable > 0 ? 100 * reached / reachable : 0;
        }

        /** Of a set of QUESTIONS the one with the greatest number, alone. */
        private int lastOf(int set) {
            int last = 0;
            for (int q = 0; q < count; q++) {
                if ((set >> q & 1) == 1) {
                    last = 1 << q;
                }
            }
            return last;
        }

        private int missedBy(int p, int set) {
            int missed = 0;
            for (int q = 0; q < count; q++) {
                if ((set >> q & 1) == 1 && pointsOf(p, q) == 0) {
                    missed++;
                }
            }
            return missed;
        }

        private int medianOf(int s) {
            int n = 0;
            for (int p = 0; p < PUPILS; p++) {
                int set = markedOf(p, s);
                if (set != 0) {
                    insertRising(n, shareBy(p, set));
                    n++;
                }
            }
            return n > 0 ? rising[(n - 1) / 2] : 0;
        }

        private void insertRising(int n, int share) {
            int place = n;
            for (int i = n; i > 0 && rising[i - 1] > share; i--) {
                rising[i] = rising[i - 1];
                place = i - 1;
            }
            rising[place] = share;
        }
    }

    private static final class Tape {
        final int[] bytes = new int[TAPE_ROOM];
        int count;

        void take(int number) {
            for (int shift = 24; shift >= 0 && count < TAPE_ROOM; shift -= 8) {
                bytes[count] = number >> shift & 255;
                count++;
            }
        }
    }

    /** Texts by rows; at first each has no bytes, as has one that is told from an empty TAPE. */
    private static final class Texts {
        final int width;
        final int[] lengths;
        final int[] bytes;

        Texts(int rows, int width) {
            this.width = width;
            lengths = new int[rows];
            bytes = new int[rows * width];
        }

        boolean keep(int row, Tape tape) {
            if (row < 0 || row >= lengths.length || tape.count > width) {
                return false;
            }
            System.arraycopy(tape.bytes, 0, bytes, row * width, tape.count);
            lengths[row] = tape.count;
            return true;
        }

        int byteAt(int row, int i) {
            return bytes[row * width + i];
        }
    }

    private static final class Out {
        final int[] bytes = new int[OUT_ROOM];
        int count;

        void put(int b) {
            if (count < OUT_ROOM) {
                bytes[count] = b;
                count++;
            }
        }

        /** A share has at most three digits. */
        void putNumber(int share) {
            if (share >= 100) {
                put('0' + share / 100);
            }
            if (share >= 10) {
                put('0' + share / 10 % 10);
            }
            put('0' + share % 10);
        }
    }

    private static final class Page {
        final int[] sayings = new int[LINES];
        final int[] skills = new int[LINES];
        final int[] ruleNumbers = new int[LINES];
        int count;

        void add(int saying, int skill, int rule) {
            if (count < LINES) {
                sayings[count] = saying;
                skills[count] = skill;
                ruleNumbers[count] = rule;
                count++;
            }
        }

        boolean hasSort(int skill, int sort) {
            for (int i = 0; i < count; i++) {
                if (skills[i] == skill && sayings[i] / SAYINGS_OF_A_SORT == sort) {
                    return true;
                }
            }
            return false;
        }

        /** A LINE is its SAYING and its SKILL; by which RULE it came does not count. */
        boolean sameLines(Page other) {
            if (count != other.count) {
                return false;
            }
            for (int i = 0; i < count; i++) {
                if (sayings[i] != other.sayings[i] || skills[i] != other.skills[i]) {
                    return false;
                }
            }
            return true;
        }
    }

    /** THE RULES, the E of each as tokens in postfix order, so that judging needs no recursion. */
    private static final class RuleBook {
        final int[] sayings = new int[RULES];
        final int[] skills = new int[RULES];
        final int[] starts = new int[RULES + 1];
        final int[] code = new int[TAPE_ROOM];
        int count;
        int used;

        void clear() {
            count = 0;
            used = 0;
        }

        void append(int token) {
            if (used < TAPE_ROOM) {
                code[used] = token;
                used++;
            }
        }

        void closeRule(int saying, int skill) {
            if (count < RULES) {
                sayings[count] = saying;
                skills[count] = skill;
                count++;
                starts[count] = used;
            }
        }

        boolean isFor(int r, int s) {
            return skills[r] == NONE || skills[r] == s;
        }
    }

    private static final class Judge {
        final int[] pile = new int[PILE_ROOM];
        int height;

        boolean isSo(RuleBook book, int r, int[] measures) {
            height = 0;
            for (int i = book.starts[r]; i < book.starts[r + 1]; i++) {
                take(book.code[i], measures);
            }
            return pop() != 0;
        }

        private void take(int token, int[] measures) {
            if (token <= HIGHEST_NUMBER) {
                push(token);
            } else if (token >= MARKED && token <= CLASS) {
                push(measures[token - MARKED]);
            } else if (token == NOT) {
                push(truth(pop() == 0));
            } else {
                int right = pop();
                int left = pop();
                push(join(left, token, right));
            }
        }

        private static int join(int left, int token, int right) {
            switch (token) {
                case PLUS:
                    return left + right;
                case MINUS:
                    return left - right;
                case LESS:
                    return truth(left < right);
                case EQUAL:
                    return truth(left == right);
                case MORE:
                    return truth(left > right);
                case AND:
                    return left & right;
                default:
                    return left | right;
            }
        }

        private static int truth(boolean so) {
            return so ? 1 : 0;
        }

        private void push(int value) {
            if (height < PILE_ROOM) {
                pile[height] = value;
                height++;
            }
        }

        private int pop() {
            if (height == 0) {
                return 0;
            }
            height--;
            return pile[height];
        }
    }

    /** The TEXT cut into tokens, with END behind them at the TEXT's length. */
    private static final class Tokens {
        final int[] kinds = new int[TAPE_ROOM + 1];
        final int[] places = new int[TAPE_ROOM + 1];
        int count;

        void scan(Tape text) {
            count = 0;
            for (int at = 0; at < text.count; at++) {
                if (startsToken(text, at)) {
                    append(tokenAt(text, at), at);
                }
            }
            append(END, text.count);
        }

        private void append(int kind, int place) {
            if (count <= TAPE_ROOM) {
                kinds[count] = kind;
                places[count] = place;
                count++;
            }
        }

        private static boolean startsToken(Tape text, int at) {
            int family = familyOf(text.bytes[at]);
            boolean runs = family == LETTER || family == DIGIT;
            boolean goesOn = runs && at > 0 && familyOf(text.bytes[at - 1]) == family;
            return family != BLANK && !goesOn;
        }

        private static int familyOf(int b) {
            if (b == ' ' || b == '\n') {
                return BLANK;
            }
            if (b >= 'a' && b <= 'z' || b >= 'A' && b <= 'Z') {
                return LETTER;
            }
            return b >= '0' && b <= '9' ? DIGIT : OTHER;
        }

        private static int tokenAt(Tape text, int at) {
            int family = familyOf(text.bytes[at]);
            if (family == OTHER) {
                return signOf(text.bytes[at]);
            }
            int end = at;
            while (end < text.count && familyOf(text.bytes[end]) == family) {
                end++;
            }
            return family == LETTER ? keywordOf(text, at, end) : numberOf(text, at, end);
        }

        private static int signOf(int b) {
            switch (b) {
                case ';':
                case '(':
                case ')':
                case '<':
                case '=':
                case '>':
                case '+':
                case '-':
                    return SIGN + b;
                default:
                    return NO_TOKEN;
            }
        }

        private static int numberOf(Tape text, int at, int end) {
            if (end - at > LONGEST_NUMBER) {
                return NO_TOKEN;
            }
            int value = 0;
            for (int i = at; i < end; i++) {
                value = value * 10 + text.bytes[i] - '0';
            }
            return value;
        }

        private static int keywordOf(Tape text, int at, int end) {
            for (int token = SAY; token <= CLASS; token++) {
                if (spells(text, at, end, spelling(token))) {
                    return token;
                }
            }
            return NO_TOKEN;
        }

        private static boolean spells(Tape text, int at, int end, String word) {
            if (end - at != word.length()) {
                return false;
            }
            for (int i = 0; i < word.length(); i++) {
                if (text.bytes[at + i] != word.charAt(i)) {
                    return false;
                }
            }
            return true;
        }

        private static String spelling(int token) {
            switch (token) {
                case SAY:
                    return "say";
                case SKILL:
                    return "skill";
                case WHEN:
                    return "when";
                case OR:
                    return "or";
                case AND:
                    return "and";
                case NOT:
                    return "not";
                case MARKED:
                    return "marked";
                case SHARE:
                    return "share";
                case MISSED:
                    return "missed";
                case LAST:
                    return "last";
                default:
                    return "class";
            }
        }
    }

    /** Reads the TEXT from left to right, so that the first FAULT it meets is the first by place. */
    private static final class RuleReader {
        final Tokens tokens = new Tokens();
        RuleBook draft = new RuleBook();
        int at;
        int now = END;
        int faultKind = NO_FAULT;
        int faultPlace = NONE;

        void begin(Tape text) {
            tokens.scan(text);
            draft.clear();
            at = 0;
            now = tokens.kinds[0];
            faultKind = NO_FAULT;
            faultPlace = NONE;
        }

        boolean readRule() {
            if (now != SAY) {
                return refuse(CANNOT_STAND);
            }
            if (draft.count >= RULES) {
                return refuse(TOO_MANY);
            }
            advance();
            int saying = readNumber(SAYINGS - 1);
            if (saying == NONE) {
                return false;
            }
            int skill = NONE;
            if (now == SKILL) {
                advance();
                skill = readNumber(SKILLS - 1);
                if (skill == NONE) {
                    return false;
                }
            }
            if (!expect(WHEN) || !readEither(0) || !expect(SEMICOLON)) {
                return false;
            }
            draft.closeRule(saying, skill);
            return true;
        }

        private int readNumber(int highest) {
            int number = now;
            if (number > HIGHEST_NUMBER) {
                refuse(CANNOT_STAND);
                return NONE;
            }
            if (number > highest) {
                refuse(TOO_HIGH);
                return NONE;
            }
            advance();
            return number;
        }

        /** E = A {or A}. */
        private boolean readEither(int open) {
            boolean fine = readBoth(open);
            for (int i = 0; i < tokens.count && fine && now == OR; i++) {
                advance();
                fine = readBoth(open);
                draft.append(OR);
            }
            return fine;
        }

        /** A = C {and C}. */
        private boolean readBoth(int open) {
            boolean fine = readCondition(open);
            for (int i = 0; i < tokens.count && fine && now == AND; i++) {
                advance();
                fine = readCondition(open);
                draft.append(AND);
            }
            return fine;
        }

        /** C = T (< | = | >) T | not C | ( E ); open says how many not and ( stand around it. */
        private boolean readCondition(int open) {
            if (now != NOT && now != OPENING) {
                return readComparison();
            }
            if (open >= OPEN_AT_ONCE) {
                return refuse(TOO_MANY);
            }
            boolean negated = now == NOT;
            advance();
            if (!negated) {
                return readEither(open + 1) && expect(CLOSING);
            }
            boolean fine = readCondition(open + 1);
            draft.append(NOT);
            return fine;
        }

        private boolean readComparison() {
            if (!readSum()) {
                return false;
            }
            int sign = now;
            if (sign != LESS && sign != EQUAL && sign != MORE) {
                return refuse(CANNOT_STAND);
            }
            advance();
            boolean fine = readSum();
            draft.append(sign);
            return fine;
        }

        /** T = U {(+ | -) U}. */
        private boolean readSum() {
            int sign = NO_TOKEN;
            for (int i = 0; i < tokens.count; i++) {
                if (!isValue(now)) {
                    return refuse(CANNOT_STAND);
                }
                draft.append(now);
                advance();
                if (sign != NO_TOKEN) {
                    draft.append(sign);
                }
                sign = now;
                if (sign != PLUS && sign != MINUS) {
                    return true;
                }
                advance();
            }
            return refuse(CANNOT_STAND);
        }

        private static boolean isValue(int token) {
            return token <= HIGHEST_NUMBER || token >= MARKED && token <= CLASS;
        }

        private boolean expect(int token) {
            if (now != token) {
                return refuse(CANNOT_STAND);
            }
            advance();
            return true;
        }

        private void advance() {
            if (at < tokens.count - 1) {
                at++;
                now = tokens.kinds[at];
            }
        }

        private boolean refuse(int kind) {
            faultKind = kind;
            faultPlace = tokens.places[at];
            return false;
        }
    }
}
