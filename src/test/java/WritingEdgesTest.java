/** Promises 10, 11, 14 and 15: each sentence that bounds PHRASES, NAMES and OUT, by itself. */
public final class WritingEdgesTest {
    private static final int NONE = MarkPages.NONE;
    private static final String DIGITS = "12345678901234567890";

    public static void main(String[] args) {
        sayingsOfPhrase();
        tonguesOfPhrase();
        phraseUpToTwenty();
        phraseTooLong();
        phraseToldAnew();
        skillsOfName();
        tonguesOfName();
        nameUpToTen();
        nameTooLong();
        nameToldAnew();
        noneAtFirst();
        everyPhraseItsOwn();
        everyNameItsOwn();
        pupilsOfWrite();
        tonguesOfWrite();
        leftOutWithoutAPhrase();
        eachPercent();
        eachHash();
        shareOfItsSkill();
        namesAreNotReadAgain();
        noLines();
        outUpToItsLength();
        outStays();
        outIsReplaced();
        theLongestOut();
        Desk.finish();
    }

    /** PUPIL 0 with one LINE, of SAYING 0 and SKILL 0, and a share of 70. */
    private static Desk oneLine() {
        Desk desk = new Desk();
        desk.x.question(10, 1);
        desk.x.mark(0, 0, 7);
        desk.rules("say 0 when 0=0;");
        return desk;
    }

    private static void sayingsOfPhrase() {
        Desk desk = new Desk();
        Desk.range("10: SAYINGS 0 .. 39", 0, 39, saying -> desk.phrase(saying, 0, "a"));
        Desk.range("10: SAYINGS 0 .. 39, of no bytes", 0, 39, saying -> desk.phrase(saying, 2, ""));
    }

    private static void tonguesOfPhrase() {
        Desk desk = new Desk();
        Desk.range("10: TONGUES 0 .. 2", 0, 2, tongue -> desk.phrase(0, tongue, "a"));
        Desk.range("10: TONGUES 0 .. 2, the last SAYING", 0, 2, tongue -> desk.phrase(39, tongue, "a"));
    }

    private static void phraseUpToTwenty() {
        for (int n = 0; n <= 20; n++) {
            Desk desk = oneLine();
            String text = DIGITS.substring(0, n);
            Desk.due("10: " + n + " bytes", desk.phrase(0, 0, text), true);
            Desk.due("14: " + n + " bytes", desk.write(0, 0), n == 0 ? "" : text + "\n");
        }
    }

    private static void phraseTooLong() {
        int[] lengths = {21, 22, 40, 256, 276, 600};
        for (int n : lengths) {
            Desk desk = oneLine();
            Desk.due("10: at first of " + n + " bytes", desk.phrase(0, 0, "x".repeat(n)), false);
            Desk.due("10: none still", desk.write(0, 0), "");
            desk.phrase(0, 0, "old");
            Desk.due("10: of " + n + " bytes", desk.phrase(0, 0, "x".repeat(n)), false);
            Desk.due("10: the old one stays", desk.write(0, 0), "old\n");
        }
    }

    private static void phraseToldAnew() {
        Desk desk = oneLine();
        for (int n = 20; n >= 1; n--) {
            Desk.due("10: anew", desk.phrase(0, 0, DIGITS.substring(20 - n)), true);
            Desk.due("14: anew, " + n + " bytes", desk.write(0, 0), DIGITS.substring(20 - n) + "\n");
        }
    }

    private static void skillsOfName() {
        Desk desk = new Desk();
        Desk.range("11: SKILLS 0 .. 4", 0, 4, skill -> desk.name(skill, 0, "a"));
        Desk.range("11: SKILLS 0 .. 4, of no bytes", 0, 4, skill -> desk.name(skill, 2, ""));
    }

    private static void tonguesOfName() {
        Desk desk = new Desk();
        Desk.range("11: TONGUES 0 .. 2", 0, 2, tongue -> desk.name(0, tongue, "a"));
        Desk.range("11: TONGUES 0 .. 2, the last SKILL", 0, 2, tongue -> desk.name(4, tongue, "a"));
    }

    private static void nameUpToTen() {
        for (int n = 0; n <= 10; n++) {
            Desk desk = oneLine();
            desk.phrase(0, 0, "<%>");
            String text = DIGITS.substring(0, n);
            Desk.due("11: " + n + " bytes", desk.name(0, 0, text), true);
            Desk.due("14: a NAME of " + n + " bytes", desk.write(0, 0), "<" + text + ">\n");
        }
    }

    private static void nameTooLong() {
        int[] lengths = {11, 12, 20, 256, 266, 600};
        for (int n : lengths) {
            Desk desk = oneLine();
            desk.phrase(0, 0, "<%>");
            Desk.due("11: at first of " + n + " bytes", desk.name(0, 0, "x".repeat(n)), false);
            Desk.due("11: none still", desk.write(0, 0), "<>\n");
            desk.name(0, 0, "old");
            Desk.due("11: of " + n + " bytes", desk.name(0, 0, "x".repeat(n)), false);
            Desk.due("11: the old one stays", desk.write(0, 0), "<old>\n");
        }
    }

    private static void nameToldAnew() {
        Desk desk = oneLine();
        desk.phrase(0, 0, "%");
        for (int n = 10; n >= 0; n--) {
            Desk.due("11: anew", desk.name(0, 0, DIGITS.substring(20 - n)), true);
            Desk.due("14: anew, " + n + " bytes", desk.write(0, 0), DIGITS.substring(20 - n) + "\n");
        }
    }

    private static void noneAtFirst() {
        for (int tongue = 0; tongue < 3; tongue++) {
            Desk desk = new Desk();
            desk.x.question(10, 31);
            desk.x.mark(0, 0, 7);
            for (int saying = 0; saying < 40; saying++) {
                desk.rules("say " + saying + " when 0=0;");
                Desk.due("10: PHRASES are none at first", desk.x.write(0, tongue), 0);
            }
            desk.phrase(39, tongue, "%");
            Desk.due("11: NAMES are none at first", desk.write(0, tongue), "\n\n\n\n\n");
        }
    }

    /** All forty are told, in each TONGUE, before any is written, so that none can take another's place. */
    private static void everyPhraseItsOwn() {
        for (int tongue = 0; tongue < 3; tongue++) {
            Desk desk = oneLine();
            for (int saying = 0; saying < 40; saying++) {
                Desk.due("10: told", desk.phrase(saying, tongue, "s" + saying), true);
            }
            for (int saying = 0; saying < 40; saying++) {
                desk.rules("say " + saying + " when 0=0;");
                Desk.due("14: its length", desk.x.write(0, tongue), saying < 10 ? 3 : 4);
                Desk.due("14: its last digit", desk.x.out(saying < 10 ? 1 : 2), '0' + saying % 10);
                Desk.due("14: its first digit", desk.x.out(1), saying < 10 ? '0' + saying : '0' + saying / 10);
            }
            Desk.due("10: not in the next TONGUE", desk.x.write(0, (tongue + 1) % 3), 0);
            Desk.due("10: nor in the one behind", desk.x.write(0, (tongue + 2) % 3), 0);
        }
    }

    private static void everyNameItsOwn() {
        Desk desk = new Desk();
        desk.x.question(10, 31);
        desk.x.mark(0, 0, 7);
        desk.rules("say 0 when 0=0;");
        for (int tongue = 0; tongue < 3; tongue++) {
            desk.phrase(0, tongue, "%");
            for (int s = 0; s < 5; s++) {
                Desk.due("11: told", desk.name(s, tongue, "t" + tongue + "s" + s), true);
            }
        }
        for (int t = 0; t < 3; t++) {
            String want = "t_s0\nt_s1\nt_s2\nt_s3\nt_s4\n".replace("_", "" + t);
            Desk.due("14: NAMES in " + t, desk.write(0, t), want);
        }
    }

    private static void pupilsOfWrite() {
        Desk desk = oneLine();
        desk.phrase(0, 0, "#");
        Desk.range("14: PUPILS 0 .. 7", 0, 7, p -> desk.x.write(p, 0) != NONE);
        for (int p = 0; p < 8; p++) {
            desk.x.mark(p, 0, p);
        }
        for (int p = 0; p < 8; p++) {
            Desk.due("14: each PUPIL's own", desk.write(p, 0), p == 0 ? "0\n" : p + "0\n");
        }
    }

    private static void tonguesOfWrite() {
        Desk desk = oneLine();
        Desk.range("14: TONGUES 0 .. 2", 0, 2, tongue -> desk.x.write(0, tongue) != NONE);
        Desk.range("14: TONGUES 0 .. 2, of the last PUPIL", 0, 2, tongue -> desk.x.write(7, tongue) != NONE);
        Desk.due("14: both wrong", desk.x.write(8, 3), NONE);
    }

    private static void leftOutWithoutAPhrase() {
        Desk desk = new Desk();
        desk.x.question(10, 1);
        desk.x.mark(0, 0, 7);
        desk.rules("say 0 when 0=0; say 10 when 0=0; say 20 when 0=0; say 30 when 0=0;");
        for (int told = 0; told < 16; told++) {
            StringBuilder want = new StringBuilder();
            for (int i = 0; i < 4; i++) {
                boolean has = (told >> i & 1) == 1;
                desk.phrase(10 * i, 1, has ? "p" + i : "");
                want.append(has ? "p" + i + "\n" : "");
            }
            Desk.due("14: left out are those without, " + told, desk.write(0, 1), want.toString());
        }
    }

    private static void eachPercent() {
        Desk desk = oneLine();
        desk.name(0, 0, "ab");
        String[] phrases = {"%", "%%", "a%", "%a", "%#%", "%".repeat(20), "1234567890123456789%"};
        for (String phrase : phrases) {
            desk.phrase(0, 0, phrase);
            String want = phrase.replace("%", "ab").replace("#", "70") + "\n";
            Desk.due("14: each % of " + phrase, desk.write(0, 0), want);
        }
    }

    /** 0, 9, 10, 99 and 100: the first and the last share of one, two and three digits. */
    private static void eachHash() {
        int[][] papers = {{0, 0}, {18, 0}, {20, 0}, {18, 20}, {20, 20}};
        String[] shares = {"0", "9", "10", "99", "100"};
        for (int i = 0; i < papers.length; i++) {
            Desk desk = new Desk();
            for (int q = 0; q < 10; q++) {
                desk.x.question(20, 1);
                desk.x.mark(7, q, papers[i][q == 0 ? 0 : 1]);
            }
            desk.rules("say 39 when 0=0;");
            desk.phrase(39, 2, "#");
            Desk.due("14: a share of " + shares[i], desk.write(7, 2), shares[i] + "\n");
            desk.phrase(39, 2, "#".repeat(20));
            Desk.due("14: each # of it", desk.write(7, 2), shares[i].repeat(20) + "\n");
        }
    }

    private static void shareOfItsSkill() {
        Desk desk = new Desk();
        for (int s = 0; s < 5; s++) {
            desk.x.question(10, 1 << s);
            desk.x.mark(0, s, 2 * s + 1);
            desk.x.mark(1, s, 5);
        }
        desk.rules("say 0 when 0=0;");
        desk.phrase(0, 0, "#");
        desk.x.page(1);
        Desk.due("14: each SKILL's own share", desk.write(0, 0), "10\n30\n50\n70\n90\n");
    }

    private static void namesAreNotReadAgain() {
        Desk desk = oneLine();
        desk.phrase(0, 0, "%");
        desk.name(0, 0, "%#\n%");
        Desk.due("14: a NAME as it was told", desk.write(0, 0), "%#\n%\n");
    }

    private static void noLines() {
        Desk desk = oneLine();
        desk.phrase(0, 0, "a");
        Desk.due("14: a PUPIL without LINES", desk.x.write(7, 0), 0);
        Desk.due("15: no byte of it", desk.x.out(0), NONE);
        desk.rules("");
        Desk.due("14: no RULES", desk.x.write(0, 0), 0);
    }

    private static void outUpToItsLength() {
        for (int n = 1; n <= 20; n++) {
            Desk desk = oneLine();
            for (int i : new int[] {-1, 0, 1}) {
                Desk.due("15: before any, byte " + i, desk.x.out(i), NONE);
            }
            desk.phrase(0, 0, DIGITS.substring(0, n));
            Desk.due("14: bytes", desk.x.write(0, 0), n + 1);
            Desk.range("15: bytes 0 .. " + n, 0, n, i -> desk.x.out(i) != NONE);
            Desk.due("15: the last is a byte 10", desk.x.out(n), 10);
        }
    }

    /** OUT is what was written, whatever has been told or asked since, or was refused. */
    private static void outStays() {
        Desk desk = oneLine();
        desk.phrase(0, 0, "# %");
        desk.name(0, 0, "add");
        desk.write(0, 0);
        for (int n : Desk.outside(0, 7)) {
            Desk.due("14: PUPIL " + n, desk.x.write(n, 0), NONE);
            Desk.due("15: OUT stays", desk.written(), "70 add\n");
        }
        for (int n : Desk.outside(0, 2)) {
            Desk.due("14: TONGUE " + n, desk.x.write(0, n), NONE);
            Desk.due("15: OUT stays", desk.written(), "70 add\n");
        }
        desk.phrase(0, 0, "new");
        desk.name(0, 0, "new");
        desk.x.mark(0, 0, 1);
        desk.rules("say 1 when 0=0;");
        desk.x.page(0);
        desk.x.line(0, 0, 3);
        desk.x.group(-1);
        desk.x.sheet(0, 0);
        Desk.due("15: OUT is what was written", desk.written(), "70 add\n");
    }

    private static void outIsReplaced() {
        Desk desk = oneLine();
        desk.phrase(0, 0, DIGITS);
        desk.phrase(0, 1, "a");
        Desk.due("14: long", desk.write(0, 0), DIGITS + "\n");
        Desk.due("14: short instead", desk.write(0, 1), "a\n");
        Desk.due("15: nothing left behind it", desk.x.out(2), NONE);
        Desk.due("14: empty instead", desk.write(0, 2), "");
        Desk.due("15: nothing left", desk.x.out(0), NONE);
    }

    /** Twelve LINES of twenty % and NAMES of ten bytes: no OUT is longer. */
    private static void theLongestOut() {
        Desk desk = new Desk();
        desk.x.question(10, 31);
        desk.x.mark(0, 0, 7);
        desk.rules("say 0 when 0=0; say 10 when 0=0; say 20 when 0=0; say 30 when 0=0;");
        for (int saying = 0; saying < 40; saying += 10) {
            desk.phrase(saying, 2, "%".repeat(20));
        }
        for (int s = 0; s < 5; s++) {
            desk.name(s, 2, "name of " + s + ".");
        }
        Desk.due("14: how many bytes", desk.x.write(0, 2), 2412);
        for (int line = 0; line < 12; line++) {
            Desk.due("15: first byte of LINE " + line, desk.x.out(201 * line), 'n');
            Desk.due("15: SKILL of LINE " + line, desk.x.out(201 * line + 198), '0' + line % 5);
            Desk.due("15: last byte of LINE " + line, desk.x.out(201 * line + 200), 10);
        }
        Desk.range("15: bytes 0 .. 2411", 0, 2411, i -> desk.x.out(i) != NONE);
    }
}
